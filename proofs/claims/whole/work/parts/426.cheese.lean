/-! close: the cheeses -/
def cP (u : zs_T) (a : Nat) (P : Nat → Nat) : Prop := ∀ o, o < 12 → zs_a u a o = nI (P o)
theorem c_cmp {a : Nat} (h : a < 2 ^ 31) : lg_cmp (lN a) 0 = if a = 0 then 0 else 1 := by
  unfold lg_cmp
  by_cases q : a = 0
  · subst q
    rw [if_pos rfl]
    decide
  · rw [if_neg q, if_pos (show lN a > 0 from (lN_lt (a := 0) (by decide) h).mpr (by omega))]
theorem c_ne {a : Nat} (h : a < 2 ^ 31) (h0 : ¬ a = 0) : ¬ lN a = 0 := fun z => h0 ((lN_eq h (by decide)).mp (z.trans rfl))
theorem c_alll {N : Nat} {u : zs_T} {P : Nat → Nat} (hP : cP u 16 P) (hb : qh P 12 ≤ 400000) : ∀ (r i f : Nat), i + r = 12 → r < f → zf_loop (fun ag x => fM9_all_b4 N u (fun v1 v3 => ag (v1, v3)) x.1 x.2) f (lN (qh P i), nI i) = some (lN (qh P 12)) := by
  intro r
  induction r with
  | zero =>
    intro i f hi hf
    obtain ⟨f, rfl⟩ : ∃ f', f = f' + 1 := ⟨f - 1, by omega⟩
    obtain rfl : i = 12 := by omega
    rw [zf_loop_s]
    show fM9_all_b4 N u _ (lN (qh P 12)) (nI 12) = _
    unfold fM9_all_b4
    rw [if_pos (show (12 : Int32) ≤ nI 12 by decide)]
  | succ r ih =>
    intro i f hi hf
    obtain ⟨f, rfl⟩ : ∃ f', f = f' + 1 := ⟨f - 1, by omega⟩
    rw [zf_loop_s]
    obtain ⟨AG, hAG⟩ : ∃ A : Int64 → Int32 → Option Int64, A = fun v1 v3 => zf_loop (fun ag x => fM9_all_b4 N u (fun v1 v3 => ag (v1, v3)) x.1 x.2) f (v1, v3) := ⟨_, rfl⟩
    show fM9_all_b4 N u (fun v1 v3 => zf_loop (fun ag x => fM9_all_b4 N u (fun v1 v3 => ag (v1, v3)) x.1 x.2) f (v1, v3)) (lN (qh P i)) (nI i) = _
    rw [← hAG]
    have hz : zf_in (nI i) 12 = true := pz_in (by omega) (by decide)
    have hPi := qh_ge P (show i < 12 by omega)
    unfold fM9_all_b4
    rw [if_neg (show ¬ (12 : Int32) ≤ nI i from nI_ge (b := 12) (by omega) (by omega)), if_pos hz, pz_cl (show i < 2 ^ 31 by omega), hP i (by omega), nI_l (show P i < 2 ^ 31 by omega), lN_add, pz_succ, hAG]
    exact ih (i + 1) f (by omega) (by omega)
theorem c_all {N : Nat} {u : zs_T} {P : Nat → Nat} (hN : 200 ≤ N) (hP : cP u 16 P) (hb : qh P 12 ≤ 400000) : fM9_all N u = some (lN (qh P 12)) := c_alll hP hb 12 0 N (by omega) (by omega)
theorem c_shl {N o : Nat} {u : zs_T} {P : Nat → Nat} {v0 : Int64} (ho : o < 12) (hP : cP u 20 P) (hb : qh P 12 ≤ 400000) : ∀ (r i f : Nat), i + r = 12 → r < f → zf_loop (fun ag x => fX1_shareOf_b6 N u v0 (nI o) (fun v4 v6 => ag (v4, v6)) x.1 x.2) f (lN (qh P i), nI i) = some (if qh P 12 = 0 then 0 else v0 * lN (P o) / lN (qh P 12)) := by
  intro r
  induction r with
  | zero =>
    intro i f hi hf
    obtain ⟨f, rfl⟩ : ∃ f', f = f' + 1 := ⟨f - 1, by omega⟩
    obtain rfl : i = 12 := by omega
    rw [zf_loop_s]
    show fX1_shareOf_b6 N u v0 (nI o) _ (lN (qh P 12)) (nI 12) = _
    have hz : zf_in (nI o) 12 = true := pz_in ho (by decide)
    have hPi := qh_ge P ho
    unfold fX1_shareOf_b6 fX1_shareOf_j29
    rw [if_pos (show (12 : Int32) ≤ nI 12 by decide), c_cmp (show qh P 12 < 2 ^ 31 by omega), if_pos hz, pz_cl (show o < 2 ^ 31 by omega), hP o ho, nI_l (show P o < 2 ^ 31 by omega)]
    by_cases q : qh P 12 = 0
    · rw [if_pos q, if_pos q, if_pos (by decide)]
    · rw [if_neg q, if_neg q, if_neg (by decide), if_pos (c_ne (by omega) q)]
  | succ r ih =>
    intro i f hi hf
    obtain ⟨f, rfl⟩ : ∃ f', f = f' + 1 := ⟨f - 1, by omega⟩
    rw [zf_loop_s]
    obtain ⟨AG, hAG⟩ : ∃ A : Int64 → Int32 → Option Int64, A = fun v4 v6 => zf_loop (fun ag x => fX1_shareOf_b6 N u v0 (nI o) (fun v4 v6 => ag (v4, v6)) x.1 x.2) f (v4, v6) := ⟨_, rfl⟩
    show fX1_shareOf_b6 N u v0 (nI o) (fun v4 v6 => zf_loop (fun ag x => fX1_shareOf_b6 N u v0 (nI o) (fun v4 v6 => ag (v4, v6)) x.1 x.2) f (v4, v6)) (lN (qh P i)) (nI i) = _
    rw [← hAG]
    have hz : zf_in (nI i) 12 = true := pz_in (by omega) (by decide)
    have hPi := qh_ge P (show i < 12 by omega)
    unfold fX1_shareOf_b6
    rw [if_neg (show ¬ (12 : Int32) ≤ nI i from nI_ge (b := 12) (by omega) (by omega)), if_pos hz, pz_cl (show i < 2 ^ 31 by omega), hP i (by omega), nI_l (show P i < 2 ^ 31 by omega), lN_add, pz_succ, hAG]
    exact ih (i + 1) f (by omega) (by omega)
theorem c_sh {N o : Nat} {u : zs_T} {P : Nat → Nat} {v0 : Int64} (hN : 200 ≤ N) (ho : o < 12) (hP : cP u 20 P) (hb : qh P 12 ≤ 400000) : fX1_shareOf N u v0 (nI o) = some (if qh P 12 = 0 then 0 else v0 * lN (P o) / lN (qh P 12)) := c_shl ho hP hb 12 0 N (by omega) (by omega)
theorem c_div {c p a : Nat} (hc : c ≤ 1000) (hp : p ≤ 400000) (ha : a ≤ 400000) : (if a = 0 then 0 else lN c * lN p / lN a) = lN (c * p / a) := by
  have h1 : c * p ≤ 1000 * 400000 := Nat.mul_le_mul hc hp
  by_cases q : a = 0
  · rw [if_pos q, q, Nat.div_zero]
    rfl
  · rw [if_neg q, lN_mul, pk_lDiv (by omega) (by omega) (by omega)]
theorem c_le {c : Nat} (P : Nat → Nat) {i : Nat} (h : i ≤ 12) : qs c (qh P 12) P i ≤ c := by
  rcases Nat.eq_zero_or_pos (qh P 12) with z | z
  · have : ∀ j, qs c 0 P j = 0 := by
      intro j
      induction j with
      | zero => rfl
      | succ j ih => show qs c 0 P j + c * P j / 0 = 0; rw [ih, Nat.div_zero]
    rw [z, this]
    exact Nat.zero_le _
  · exact qs_le z (qh_mono P h)
theorem c_X5 {N c : Nat} {P : Nat → Nat} (hN : 200 ≤ N) (hc : c ≤ 1000) (hb : qh P 12 ≤ 400000) : ∀ (r i f : Nat) (u : zs_T), i + r = 12 → r < f → cP u 20 P → (∀ o, o < i → zs_a u 21 o = nI (c * P o / qh P 12)) → ∃ u', zf_loop (fun ag x => fX1_partCheeses_b5 N (nI c) (fun u v3 v4 => ag (u, v3, v4)) x.1 x.2.1 x.2.2) f (u, nI (c - qs c (qh P 12) P i), nI i) = fX1_partCheeses_j44 N u' (nI (c - qs c (qh P 12) P 12)) ∧ zg_ag [] [] [21] [] u u' ∧ ∀ o, o < 12 → zs_a u' 21 o = nI (c * P o / qh P 12) := by
  intro r
  induction r with
  | zero =>
    intro i f u hi hf hP h21
    obtain ⟨f, rfl⟩ : ∃ f', f = f' + 1 := ⟨f - 1, by omega⟩
    obtain rfl : i = 12 := by omega
    rw [zf_loop_s]
    refine ⟨u, ?_, zg_ag.rf, h21⟩
    show fX1_partCheeses_b5 N (nI c) _ u (nI (c - qs c (qh P 12) P 12)) (nI 12) = _
    unfold fX1_partCheeses_b5
    rw [if_pos (show (12 : Int32) ≤ nI 12 by decide)]
  | succ r ih =>
    intro i f u hi hf hP h21
    obtain ⟨f, rfl⟩ : ∃ f', f = f' + 1 := ⟨f - 1, by omega⟩
    rw [zf_loop_s]
    obtain ⟨AG, hAG⟩ : ∃ A : zs_T → Int32 → Int32 → Option (Int32 × zs_T), A = fun u v3 v4 => zf_loop (fun ag x => fX1_partCheeses_b5 N (nI c) (fun u v3 v4 => ag (u, v3, v4)) x.1 x.2.1 x.2.2) f (u, v3, v4) := ⟨_, rfl⟩
    show ∃ u', fX1_partCheeses_b5 N (nI c) (fun u v3 v4 => zf_loop (fun ag x => fX1_partCheeses_b5 N (nI c) (fun u v3 v4 => ag (u, v3, v4)) x.1 x.2.1 x.2.2) f (u, v3, v4)) u (nI (c - qs c (qh P 12) P i)) (nI i) = _ ∧ _
    rw [← hAG]
    have hz : zf_in (nI i) 12 = true := pz_in (by omega) (by decide)
    have hPi := qh_ge P (show i < 12 by omega)
    have hle := c_le (c := c) P (show i + 1 ≤ 12 by omega)
    have hs2 : qs c (qh P 12) P (i + 1) = qs c (qh P 12) P i + c * P i / qh P 12 := rfl
    unfold fX1_partCheeses_b5
    rw [if_neg (show ¬ (12 : Int32) ≤ nI i from nI_ge (b := 12) (by omega) (by omega)), nI_l (show c < 2 ^ 31 by omega), c_sh hN (by omega) hP hb, zf_bp_s, c_div hc (show P i ≤ 400000 by omega) hb, lN_i, if_pos hz, if_pos hz, pz_cl (show i < 2 ^ 31 by omega), pz_succ]
    rw [show zs_a (zs_sa u 21 (upd (zs_a u 21) i (nI (c * P i / qh P 12)))) 21 i = nI (c * P i / qh P 12) from by show upd (zs_a u 21) i _ i = _; rw [pz_upd, if_pos rfl]]
    rw [pk_sub (show c * P i / qh P 12 ≤ c - qs c (qh P 12) P i by omega), Nat.sub_sub, ← hs2]
    obtain ⟨u', b1, b2, b3⟩ := ih (i + 1) f (zs_sa u 21 (upd (zs_a u 21) i (nI (c * P i / qh P 12)))) (by omega) (by omega) hP (fun o ho => by
      show upd (zs_a u 21) i _ o = _
      rw [pz_upd]
      by_cases q : o = i
      · rw [if_pos q, q]
      · rw [if_neg q]; exact h21 o (by omega))
    exact ⟨u', by rw [hAG]; exact b1, (zg_ag.rf.sa (by decide)).tr b2, b3⟩
/-- work owed for a part -/
def cw (W : Int32) (p : Nat) : Int64 := (W.toInt64 * lN p + 999) / 1000
theorem cw_0 (W : Int32) : cw W 0 = 0 := by
  unfold cw
  rw [show lN 0 = 0 from rfl, Int64.mul_zero]
  rfl
theorem c_g {u : zs_T} {o : Nat} {v : Int32} (ho : o < 12) : fM9_gives u (nI o) v = some (zs_sa (zs_sa u 18 (upd (zs_a u 18) o (zs_a u 18 o + v))) 19 (upd (zs_a u 19) o (zs_a u 19 o + v))) := by
  have hz : zf_in (nI o) 12 = true := pz_in ho (by decide)
  unfold fM9_gives
  rw [if_pos hz, if_pos hz, if_pos hz, if_pos hz, pz_cl (show o < 2 ^ 31 by omega)]
  rfl
theorem c_M66 {N c : Nat} {P Ch : Nat → Nat} {B : Nat → Int64} {W : Int32} (hN : 200 ≤ N) (hc : c ≤ 1000) (hb : qh P 12 ≤ 400000) : ∀ (r i f : Nat) (u : zs_T), i + r = 12 → r < f → cP u 16 P → zs_i u 4 = W → (∀ o, o < 12 → zs_a u 18 o = nI (Ch o + if o < i then c * P o / qh P 12 else 0)) → (∀ o, o < i → zs_a u 19 o = nI (c * P o / qh P 12)) → (∀ o, o < 12 → zs_b u 0 o = if o < i then B o + cw W (P o) else B o) → ∃ u', zf_loop (fun ag x => fM9_close_b66 N (nI c) (lN (qh P 12)) (fun u v4 v5 => ag (u, v4, v5)) x.1 x.2.1 x.2.2) f (u, nI (c - qs c (qh P 12) P i), nI i) = zf_loop (fun ag x => fM9_close_b164 N (lN (qh P 12)) (fun u v4 => ag (u, v4)) x.1 x.2) N (u', nI (c - qs c (qh P 12) P 12)) ∧ zg_ag [] [] [18, 19] [0] u u' ∧ (∀ o, o < 12 → zs_a u' 19 o = nI (c * P o / qh P 12) ∧ zs_a u' 18 o = nI (Ch o + c * P o / qh P 12) ∧ zs_b u' 0 o = B o + cw W (P o)) := by
  intro r
  induction r with
  | zero =>
    intro i f u hi hf hP hW h18 h19 h0
    obtain ⟨f, rfl⟩ : ∃ f', f = f' + 1 := ⟨f - 1, by omega⟩
    obtain rfl : i = 12 := by omega
    rw [zf_loop_s]
    refine ⟨u, ?_, zg_ag.rf, fun o ho => ⟨h19 o ho, by rw [h18 o ho, if_pos ho], by rw [h0 o ho, if_pos ho]⟩⟩
    show fM9_close_b66 N (nI c) (lN (qh P 12)) _ u (nI (c - qs c (qh P 12) P 12)) (nI 12) = _
    unfold fM9_close_b66
    rw [if_pos (show (12 : Int32) ≤ nI 12 by decide)]
  | succ r ih =>
    intro i f u hi hf hP hW h18 h19 h0
    obtain ⟨f, rfl⟩ : ∃ f', f = f' + 1 := ⟨f - 1, by omega⟩
    rw [zf_loop_s]
    obtain ⟨AG, hAG⟩ : ∃ A : zs_T → Int32 → Int32 → Option (Int32 × zs_T), A = fun u v4 v5 => zf_loop (fun ag x => fM9_close_b66 N (nI c) (lN (qh P 12)) (fun u v4 v5 => ag (u, v4, v5)) x.1 x.2.1 x.2.2) f (u, v4, v5) := ⟨_, rfl⟩
    show ∃ u', fM9_close_b66 N (nI c) (lN (qh P 12)) (fun u v4 v5 => zf_loop (fun ag x => fM9_close_b66 N (nI c) (lN (qh P 12)) (fun u v4 v5 => ag (u, v4, v5)) x.1 x.2.1 x.2.2) f (u, v4, v5)) u (nI (c - qs c (qh P 12) P i)) (nI i) = _ ∧ _
    rw [← hAG]
    have hz : zf_in (nI i) 12 = true := pz_in (by omega) (by decide)
    have hPi := qh_ge P (show i < 12 by omega)
    have hle := c_le (c := c) P (show i + 1 ≤ 12 by omega)
    have hs2 : qs c (qh P 12) P (i + 1) = qs c (qh P 12) P i + c * P i / qh P 12 := rfl
    have hdiv := c_div hc (show P i ≤ 400000 by omega) hb
    unfold fM9_close_b66
    rw [if_neg (show ¬ (12 : Int32) ≤ nI i from nI_ge (b := 12) (by omega) (by omega)), if_pos hz, if_pos hz, c_cmp (show qh P 12 < 2 ^ 31 by omega), pz_cl (show i < 2 ^ 31 by omega), pz_succ, show zs_a (zs_sa u 19 (upd (zs_a u 19) i 0)) 16 i = zs_a u 16 i from rfl, hP i (by omega), nI_l (show P i < 2 ^ 31 by omega), nI_l (show c < 2 ^ 31 by omega)]
    by_cases q : qh P 12 = 0
    · have hP0 : P i = 0 := by omega
      have e0 : c * P i / qh P 12 = 0 := by rw [q, Nat.div_zero]
      rw [if_pos q, if_pos rfl]
      obtain ⟨u', b1, b2, b3⟩ := ih (i + 1) f (zs_sa u 19 (upd (zs_a u 19) i 0)) (by omega) (by omega) hP hW (fun o ho => by
        show zs_a u 18 o = _
        rw [h18 o ho]
        by_cases z : o = i
        · subst z
          rw [if_neg (Nat.lt_irrefl o), if_pos (by omega), e0]
        · by_cases z2 : o < i
          · rw [if_pos z2, if_pos (by omega)]
          · rw [if_neg z2, if_neg (by omega)]) (fun o ho => by
        show upd (zs_a u 19) i 0 o = _
        rw [pz_upd]
        by_cases z : o = i
        · rw [if_pos z, z, e0]; rfl
        · rw [if_neg z]; exact h19 o (by omega)) (fun o ho => by
        show zs_b u 0 o = _
        rw [h0 o ho]
        by_cases z : o = i
        · subst z
          rw [if_neg (Nat.lt_irrefl o), if_pos (by omega), hP0, cw_0, Int64.add_zero]
        · by_cases z2 : o < i
          · rw [if_pos z2, if_pos (by omega)]
          · rw [if_neg z2, if_neg (by omega)])
      refine ⟨u', ?_, (zg_ag.rf.sa (by decide)).tr b2, b3⟩
      rw [hs2, e0, Nat.add_zero] at b1
      rw [hAG]
      exact b1
    · rw [if_neg q] at hdiv
      rw [if_neg q, if_neg (by decide), if_pos (c_ne (by omega) q), hdiv, lN_i, c_g (show i < 12 by omega), zf_bv_s, if_pos hz, if_pos hz, if_pos hz, pk_sub (show c * P i / qh P 12 ≤ c - qs c (qh P 12) P i by omega), Nat.sub_sub, ← hs2]
      have e4 : ∀ (a b : Nat → Int32), zs_i (zs_sa (zs_sa (zs_sa u 19 (upd (zs_a u 19) i 0)) 18 a) 19 b) 4 = W := fun _ _ => hW
      have e16 : ∀ (a b : Nat → Int32), zs_a (zs_sa (zs_sa (zs_sa u 19 (upd (zs_a u 19) i 0)) 18 a) 19 b) 16 i = nI (P i) := fun _ _ => hP i (by omega)
      rw [e4, e16, nI_l (show P i < 2 ^ 31 by omega)]
      obtain ⟨u1, hu1⟩ : ∃ u1, u1 = zs_sb (zs_sa (zs_sa (zs_sa u 19 (upd (zs_a u 19) i 0)) 18 (upd (zs_a (zs_sa u 19 (upd (zs_a u 19) i 0)) 18) i (zs_a (zs_sa u 19 (upd (zs_a u 19) i 0)) 18 i + nI (c * P i / qh P 12)))) 19 (upd (zs_a (zs_sa u 19 (upd (zs_a u 19) i 0)) 19) i (zs_a (zs_sa u 19 (upd (zs_a u 19) i 0)) 19 i + nI (c * P i / qh P 12)))) 0 (vp_updL (zs_b u 0) i (zs_b u 0 i + (W.toInt64 * lN (P i) + 999) / 1000)) := ⟨_, rfl⟩
      have hag : zg_ag [] [] [18, 19] [0] u u1 := by rw [hu1]; exact (((zg_ag.rf.sa (by decide)).sa (by decide)).sa (by decide)).sb (by decide)
      obtain ⟨u', b1, b2, b3⟩ := ih (i + 1) f u1 (by omega) (by omega) (fun o ho => by rw [hag.2.2.1 16 (by decide)]; exact hP o ho) (by rw [hag.1 4 (by decide)]; exact hW) (fun o ho => by
        rw [hu1]
        show upd (zs_a u 18) i (zs_a u 18 i + nI (c * P i / qh P 12)) o = _
        rw [pz_upd]
        by_cases z : o = i
        · subst z
          rw [if_pos rfl, h18 o ho, if_neg (Nat.lt_irrefl o), if_pos (by omega), nI_add, Nat.add_zero]
        · rw [if_neg z, h18 o ho]
          by_cases z2 : o < i
          · rw [if_pos z2, if_pos (by omega)]
          · rw [if_neg z2, if_neg (by omega)]) (fun o ho => by
        rw [hu1]
        show upd (upd (zs_a u 19) i 0) i (upd (zs_a u 19) i 0 i + nI (c * P i / qh P 12)) o = _
        simp only [pz_upd, if_true]
        by_cases z : o = i
        · rw [if_pos z, z, Int32.zero_add]
        · rw [if_neg z, if_neg z]; exact h19 o (by omega)) (fun o ho => by
        rw [hu1]
        show vp_updL (zs_b u 0) i (zs_b u 0 i + cw W (P i)) o = _
        rw [pz_updL]
        by_cases z : o = i
        · subst z
          rw [if_pos rfl, h0 o ho, if_neg (Nat.lt_irrefl o), if_pos (by omega)]
        · rw [if_neg z, h0 o ho]
          by_cases z2 : o < i
          · rw [if_pos z2, if_pos (by omega)]
          · rw [if_neg z2, if_neg (by omega)])
      refine ⟨u', ?_, hag.tr b2, b3⟩
      rw [← b1, hu1, hAG]
      rfl
