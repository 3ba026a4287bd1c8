theorem v_cpl {N n : Nat} {w v3 v4 v5 : Int32} {ag96 : zs_T → Int32 → Option (Int32 × zs_T)} (hn : n ≤ 8) : ∀ (r i fu : Nat) (u : zs_T), i + r = n → r < fu → (∀ k, k < i → zs_a u 7 k = zs_a u 6 k) → ∃ u', zf_loop (fun ag x => fM9_way_b285 N ag96 (nI n) w v3 v4 v5 (fun u v9 => ag (u, v9)) x.1 x.2) fu (u, nI i) = ag96 u' (v5 + 1) ∧ zg_ag [] [] [7] [] u u' ∧ ∀ k, k < n → zs_a u' 7 k = zs_a u 6 k := by
  intro r
  induction r with
  | zero =>
    intro i fu u hi hf h7
    obtain ⟨fu, rfl⟩ : ∃ f', fu = f' + 1 := ⟨fu - 1, by omega⟩
    obtain rfl : i = n := by omega
    rw [zf_loop_s]
    refine ⟨u, ?_, zg_ag.rf, h7⟩
    show fM9_way_b285 N ag96 (nI i) w v3 v4 v5 _ u (nI i) = _
    unfold fM9_way_b285
    rw [if_pos (nI_le (by omega) (by omega))]
  | succ r ih =>
    intro i fu u hi hf h7
    obtain ⟨fu, rfl⟩ : ∃ f', fu = f' + 1 := ⟨fu - 1, by omega⟩
    rw [zf_loop_s]
    obtain ⟨AG, hAG⟩ : ∃ A : zs_T → Int32 → Option (Int32 × zs_T), A = fun u v9 => zf_loop (fun ag x => fM9_way_b285 N ag96 (nI n) w v3 v4 v5 (fun u v9 => ag (u, v9)) x.1 x.2) fu (u, v9) := ⟨_, rfl⟩
    show ∃ u', fM9_way_b285 N ag96 (nI n) w v3 v4 v5 (fun u v9 => zf_loop (fun ag x => fM9_way_b285 N ag96 (nI n) w v3 v4 v5 (fun u v9 => ag (u, v9)) x.1 x.2) fu (u, v9)) u (nI i) = _ ∧ _
    rw [← hAG]
    have hz : zf_in (nI i) 8 = true := pz_in (by omega) (by decide)
    unfold fM9_way_b285
    rw [if_neg (nI_ge (by omega) (by omega)), if_pos hz, if_pos hz, pz_cl (show i < 2 ^ 31 by omega), pz_succ]
    obtain ⟨u', b1, b2, b3⟩ := ih (i + 1) fu (zs_sa u 7 (upd (zs_a u 7) i (zs_a u 6 i))) (by omega) (by omega) (fun k hk => by
      show upd (zs_a u 7) i (zs_a u 6 i) k = zs_a u 6 k
      rw [pz_upd]
      by_cases z : k = i
      · rw [if_pos z, z]
      · rw [if_neg z]; exact h7 k (by omega))
    exact ⟨u', by rw [hAG]; exact b1, (zg_ag.rf.sa (by decide)).tr b2, b3⟩
/-- the best that the reference keeps -/
def vB (hu g : List Nat → Nat) (n : Nat) (u : zs_T) (b : Option (List Nat)) : Prop := (b = none ∧ zs_i u 13 = -1) ∨ ∃ p, b = some p ∧ p.length = n ∧ zs_i u 13 = nI (hu p) ∧ zs_i u 14 = nI (g p) ∧ tA (zs_a u 7) p
theorem v_better {N n : Nat} {hu g : List Nat → Nat} {w v3 v4 v5 : Int32} {ag96 : zs_T → Int32 → Option (Int32 × zs_T)} {u : zs_T} {p : List Nat} {b : Option (List Nat)} (hN : 200 ≤ N) (hn : n ≤ 8) (bE : ∀ q : List Nat, q.length = n → hu q ≤ 6400) (bG : ∀ q : List Nat, g q ≤ 360000) (hp : p.length = n) (hp6 : ∀ a ∈ p, a < 6) (hA : tA (zs_a u 6) p) (hB : vB hu g n u b) (hb6 : ∀ q, b = some q → ∀ a ∈ q, a < 6) : ∃ u' b', fM9_way_j203 N ag96 u (nI n) w v3 v4 v5 (nI (hu p)) (nI (g p)) = ag96 u' (v5 + 1) ∧ zg_ag [13, 14] [] [7] [] u u' ∧ vB hu g n u' b' ∧ (b' = b ∨ b' = some p) ∧ wn hu g p b' ∧ ∀ q0, wn hu g q0 b → wn hu g q0 b' := by
  have bp := bE p hp
  have gp := bG p
  have set' : ∃ u', fM9_way_j255 N ag96 u (nI n) w v3 v4 v5 (nI (hu p)) (nI (g p)) = ag96 u' (v5 + 1) ∧ zg_ag [13, 14] [] [7] [] u u' ∧ vB hu g n u' (some p) := by
    obtain ⟨u', b1, b2, b3⟩ := v_cpl (N := N) (w := w) (v3 := v3) (v4 := v4) (v5 := v5) (ag96 := ag96) hn n 0 N (zs_si (zs_si u 13 (nI (hu p))) 14 (nI (g p))) (by omega) (by omega) (fun k hk => by omega)
    refine ⟨u', ?_, ((zg_ag.rf.si (by decide)).si (by decide)).tr (b2.mono (by decide) (by decide) (by decide) (by decide)), Or.inr ⟨p, rfl, hp, ?_, ?_, fun i o h => ?_⟩⟩
    · unfold fM9_way_j255 fM9_way_j260
      rw [if_neg (by decide)]
      exact b1
    · rw [b2.1 13 (by decide)]; rfl
    · rw [b2.1 14 (by decide)]; rfl
    · have hi : i < n := by have := (List.getElem?_eq_some_iff.mp h).1; omega
      rw [b3 i hi]
      exact hA i o h
  have hkeep : fM9_way_j259 N ag96 u (nI n) w v3 v4 v5 (nI (hu p)) (nI (g p)) = ag96 u (v5 + 1) := by
    unfold fM9_way_j259 fM9_way_j260
    rw [if_pos rfl]
  obtain ⟨u1, s1, s2, s3⟩ := set'
  unfold fM9_way_j203
  rw [s1, hkeep]
  rcases hB with ⟨z1, z2⟩ | ⟨q, z1, z2, z3, z4, z5⟩
  · rw [if_pos z2]
    refine ⟨u1, some p, rfl, s2, s3, Or.inr rfl, ⟨p, rfl, fun h => wb_ir h⟩, fun q0 h => ?_⟩
    obtain ⟨y, y1, -⟩ := h
    rw [z1] at y1
    cases y1
  · have bq := bE q z2
    have gq' := bG q
    have upd' : wb hu g p q → ∃ u' b', ag96 u1 (v5 + 1) = ag96 u' (v5 + 1) ∧ zg_ag [13, 14] [] [7] [] u u' ∧ vB hu g n u' b' ∧ (b' = b ∨ b' = some p) ∧ wn hu g p b' ∧ ∀ q0, wn hu g q0 b → wn hu g q0 b' := by
      intro hb
      refine ⟨u1, some p, rfl, s2, s3, Or.inr rfl, ⟨p, rfl, fun h => wb_ir h⟩, fun q0 h => ?_⟩
      obtain ⟨y, y1, y2⟩ := h
      rw [z1] at y1
      have : y = q := (Option.some.inj y1).symm
      subst this
      exact ⟨p, rfl, fun h3 => y2 (wb_tr h3 hb)⟩
    have keep : ¬ wb hu g p q → ∃ u' b', ag96 u (v5 + 1) = ag96 u' (v5 + 1) ∧ zg_ag [13, 14] [] [7] [] u u' ∧ vB hu g n u' b' ∧ (b' = b ∨ b' = some p) ∧ wn hu g p b' ∧ ∀ q0, wn hu g q0 b → wn hu g q0 b' := fun hb => ⟨u, b, rfl, zg_ag.rf, Or.inr ⟨q, z1, z2, z3, z4, z5⟩, Or.inl rfl, ⟨q, z1, hb⟩, fun _ h => h⟩
    have hne : ¬ nI (hu q) = -1 := fun z => by
      have := congrArg Int32.toInt z
      rw [pz_nI (by omega)] at this
      have h2 : ((hu q : Nat) : Int) = -1 := this
      omega
    have hless : fM9_isLess N u (nI n) = some (if wx p q = true then 1 else 0) := v_less hn p q 0 N (by omega) (by omega) (by omega) (fun k a hk => by
      rw [Nat.zero_add]
      have := hp6 a (List.mem_of_getElem? hk)
      exact ⟨hA k a hk, by omega⟩) (fun k a hk => by
      rw [Nat.zero_add]
      have := hb6 q z1 a (List.mem_of_getElem? hk)
      exact ⟨z5 k a hk, by omega⟩)
    rw [z3, z4, if_neg hne, hless, zf_bp_s]
    by_cases p1 : hu p < hu q
    · rw [if_pos (nI_lt p1 (by omega))]
      exact upd' (Or.inl p1)
    · rw [if_neg (nI_nlt (by omega) (by omega))]
      by_cases p2 : hu p = hu q
      · rw [if_pos (by rw [p2])]
        by_cases p3 : g q < g p
        · rw [if_pos (nI_lt p3 (by omega))]
          exact upd' (Or.inr ⟨p2, Or.inl p3⟩)
        · rw [if_neg (nI_nlt (by omega) (by omega))]
          by_cases p4 : g p = g q
          · rw [if_pos (by rw [p4])]
            by_cases p5 : wx p q = true
            · rw [if_pos p5, if_neg (by decide)]
              exact upd' (Or.inr ⟨p2, Or.inr ⟨p4, p5⟩⟩)
            · rw [if_neg p5, if_pos rfl]
              refine keep (fun h => ?_)
              rcases h with h | ⟨-, h | ⟨-, h⟩⟩
              · omega
              · omega
              · exact p5 h
          · rw [if_neg (fun h => p4 ((nI_eq (by omega) (by omega)).mp h))]
            refine keep (fun h => ?_)
            rcases h with h | ⟨-, h | ⟨h, -⟩⟩
            · omega
            · omega
            · exact p4 h
      · rw [if_neg (fun h => p2 ((nI_eq (by omega) (by omega)).mp h))]
        refine keep (fun h => ?_)
        rcases h with h | ⟨h, -⟩
        · omega
        · omega
theorem wl_lt {H : Nat} : ∀ (p : List Nat) (f : Int), wl H f p → ∀ a ∈ p, a < H
  | [], _, _, a, h => by cases h
  | b :: p, f, hw, a, h => by
    rcases List.mem_cons.mp h with z | z
    · rw [z]; exact hw.1.1
    · exact wl_lt p _ hw.2 a z
/-- what holds of the reference's state between two codes -/
theorem v_codes {N n H U K : Nat} {R0 Mo : Nat → Nat} {C : Nat → Int32} {w : Int32} {m : zs_T} (hN : 200 ≤ N) (hn : n ≤ 8) (hK : K ≤ 6561) (hs : gs H R0 Mo C) (hw : -30 ≤ w.toInt ∧ w.toInt ≤ 40) (hU : U ≤ 80) (h6 : zs_i m 6 = nI H) (h7 : -1 ≤ (zs_i m 7).toInt ∧ (zs_i m 7).toInt < H) (h34 : ∀ j, j < H → zs_a m 3 j = nI (Mo j) ∧ zs_a m 4 j = C j) (h2 : ∀ j, j < H → zs_a m 2 j = nI (R0 j)) (h5 : ∀ j, j < H → zs_a m 5 j = nI (R0 j)) : ∀ (r c fu : Nat) (u : zs_T) (b : Option (List Nat)), c + r = K → r < fu → zg_ag [13, 14] [] [6, 7] [] m u → vB (wE Mo C w (10 * U) R0) (wG Mo C w (10 * U) H R0) n u b → (∀ p, b = some p → wl H (zs_i m 7).toInt p) → (∀ c', c' < c → ∀ p, wd H n (zs_i m 7).toInt c' = some p → wn (wE Mo C w (10 * U) R0) (wG Mo C w (10 * U) H R0) p b) → ∃ u' b', zf_loop (fun ag x => fM9_way_b96 N (nI n) w (nI U) (nI K) (fun u v5 => ag (u, v5)) x.1 x.2) fu (u, nI c) = fM9_way_j317 N u' (nI n) ∧ zg_ag [13, 14] [] [6, 7] [] m u' ∧ vB (wE Mo C w (10 * U) R0) (wG Mo C w (10 * U) H R0) n u' b' ∧ (∀ p, b' = some p → wl H (zs_i m 7).toInt p) ∧ ∀ c', c' < K → ∀ p, wd H n (zs_i m 7).toInt c' = some p → wn (wE Mo C w (10 * U) R0) (wG Mo C w (10 * U) H R0) p b' := by
  have hH := hs.1
  have bE : ∀ q : List Nat, q.length = n → wE Mo C w (10 * U) R0 q ≤ 6400 := by
    intro q hq
    have h1 := wE_le Mo C w (10 * U) q R0
    have h2 : 10 * U * q.length ≤ 800 * 8 := Nat.mul_le_mul (by omega) (by omega)
    omega
  have bG : ∀ q : List Nat, wG Mo C w (10 * U) H R0 q ≤ 360000 := by
    intro q
    have h1 := qh_b (n := H) (gs_F w (10 * U) q hs).2.1
    have h2 : 60000 * H ≤ 60000 * 6 := Nat.mul_le_mul_left _ hH
    unfold wG
    omega
  intro r
  induction r with
  | zero =>
    intro c fu u b hc hf ha hB hl hw'
    obtain ⟨fu, rfl⟩ : ∃ f', fu = f' + 1 := ⟨fu - 1, by omega⟩
    obtain rfl : c = K := by omega
    rw [zf_loop_s]
    refine ⟨u, b, ?_, ha, hB, hl, hw'⟩
    show fM9_way_b96 N (nI n) w (nI U) (nI c) _ u (nI c) = _
    unfold fM9_way_b96
    rw [if_pos (nI_le (by omega) (by omega))]
  | succ r ih =>
    intro c fu u b hc hf ha hB hl hw'
    obtain ⟨fu, rfl⟩ : ∃ f', fu = f' + 1 := ⟨fu - 1, by omega⟩
    rw [zf_loop_s]
    obtain ⟨AG, hAG⟩ : ∃ A : zs_T → Int32 → Option (Int32 × zs_T), A = fun u v5 => zf_loop (fun ag x => fM9_way_b96 N (nI n) w (nI U) (nI K) (fun u v5 => ag (u, v5)) x.1 x.2) fu (u, v5) := ⟨_, rfl⟩
    show ∃ u' b', fM9_way_b96 N (nI n) w (nI U) (nI K) (fun u v5 => zf_loop (fun ag x => fM9_way_b96 N (nI n) w (nI U) (nI K) (fun u v5 => ag (u, v5)) x.1 x.2) fu (u, v5)) u (nI c) = _ ∧ _
    rw [← hAG]
    have u7 : zs_i u 7 = zs_i m 7 := ha.1 7 (by decide)
    have u6 : zs_i u 6 = nI H := (ha.1 6 (by decide)).trans h6
    obtain ⟨a, u1, g1, g2, g3, g4⟩ := v_lays (N := N) hn hH n 0 N c u (zs_i m 7) (by omega) (by omega) (by omega) u6 (by omega) (fun _ => u7.symm) (fun z => by omega)
    have g1' : fM9_lays N u (nI c) (nI n) = some (a, u1) := by
      unfold fM9_lays
      rw [u7]
      exact g1
    have ag1 : zg_ag [13, 14] [] [6, 7] [] m u1 := ha.tr (g2.mono (by decide) (by decide) (by decide) (by decide))
    have hB1 : vB (wE Mo C w (10 * U) R0) (wG Mo C w (10 * U) H R0) n u1 b := by
      unfold vB
      rw [g2.1 13 (by decide), g2.1 14 (by decide), g2.2.2.1 7 (by decide)]
      exact hB
    have fin : ∀ (u2 : zs_T) (b2 : Option (List Nat)), fM9_way_b96 N (nI n) w (nI U) (nI K) AG u (nI c) = AG u2 (nI (c + 1)) → zg_ag [13, 14] [] [6, 7] [] m u2 → vB (wE Mo C w (10 * U) R0) (wG Mo C w (10 * U) H R0) n u2 b2 → (∀ p, b2 = some p → wl H (zs_i m 7).toInt p) → (∀ p, wd H n (zs_i m 7).toInt c = some p → wn (wE Mo C w (10 * U) R0) (wG Mo C w (10 * U) H R0) p b2) → (∀ q0, wn (wE Mo C w (10 * U) R0) (wG Mo C w (10 * U) H R0) q0 b → wn (wE Mo C w (10 * U) R0) (wG Mo C w (10 * U) H R0) q0 b2) → ∃ u' b', fM9_way_b96 N (nI n) w (nI U) (nI K) AG u (nI c) = fM9_way_j317 N u' (nI n) ∧ zg_ag [13, 14] [] [6, 7] [] m u' ∧ vB (wE Mo C w (10 * U) R0) (wG Mo C w (10 * U) H R0) n u' b' ∧ (∀ p, b' = some p → wl H (zs_i m 7).toInt p) ∧ ∀ c', c' < K → ∀ p, wd H n (zs_i m 7).toInt c' = some p → wn (wE Mo C w (10 * U) R0) (wG Mo C w (10 * U) H R0) p b' := by
      intro u2 b2 k1 k2 k3 k4 k5 k6
      obtain ⟨u', b', e1, e2⟩ := ih (c + 1) fu u2 b2 (by omega) (by omega) k2 k3 k4 (fun c' hc' p hp => by
        rcases Nat.lt_or_ge c' c with z | z
        · exact k6 p (hw' c' z p hp)
        · obtain rfl : c' = c := by omega
          exact k5 p hp)
      exact ⟨u', b', by rw [k1, hAG]; exact e1, e2⟩
    cases hd : wd H n (zs_i m 7).toInt c with
    | none =>
      rw [hd] at g4
      have ga : a = 0 := g4
      refine fin u1 b ?_ ag1 hB1 hl (fun p hp => by rw [hd] at hp; cases hp) (fun _ h => h)
      unfold fM9_way_b96
      rw [if_neg (nI_ge (by omega) (by omega)), g1', zf_bi_s, ga, if_pos rfl, pz_succ]
    | some p =>
      rw [hd] at g4
      obtain ⟨ga, gA⟩ : a = 1 ∧ ∀ k a, p[k]? = some a → zs_a u1 6 (0 + k) = nI a := g4
      obtain ⟨pl, plen⟩ := wd_l n _ c p h7.1 hd
      have plt := wl_lt p _ pl
      have tA1 : tA (zs_a u1 6) p := fun i o h => by have := gA i o h; rw [Nat.zero_add] at this; exact this
      have w34 : ∀ j, j < H → zs_a u1 3 j = nI (Mo j) ∧ zs_a u1 4 j = C j := fun j hj => by rw [ag1.2.2.1 3 (by decide), ag1.2.2.1 4 (by decide)]; exact h34 j hj
      have w2 : ∀ j, j < H → zs_a u1 2 j = nI (R0 j) := fun j hj => by rw [ag1.2.2.1 2 (by decide)]; exact h2 j hj
      obtain ⟨u2, k1, k2, k3, k4⟩ := v_walk (N := N) (v4 := nI K) (v5 := nI c) (ag96 := AG) hN hn hw hU p 0 N 0 u1 R0 hs (by omega) (by omega) ((ag1.1 6 (by decide)).trans h6) w34 w2 (fun k a hk => ⟨gA k a hk, plt a (List.mem_of_getElem? hk)⟩)
      rw [Nat.zero_add] at k1
      obtain ⟨u3, e1, e2, e3, e4⟩ := v_sum (N := N) (n := n) (w := w) (v3 := nI U) (v4 := nI K) (v5 := nI c) (v6 := nI (wE Mo C w (10 * U) R0 p)) (ag96 := AG) (R := wF Mo C w (10 * U) R0 p) (R0 := R0) hH H 0 N u2 (by omega) (by omega) ((k2.1 6 (by decide)).trans ((ag1.1 6 (by decide)).trans h6)) (fun j hj => by rw [k2.2.2.1 5 (by decide), ag1.2.2.1 5 (by decide)]; exact h5 j hj) (fun j hj => by rw [k3 j hj, if_neg (by omega)])
      have a2eq : zs_a u3 2 = zs_a u1 2 := by
        funext j
        rcases Nat.lt_or_ge j H with z | z
        · rw [e3 j z, w2 j z]
        · rw [e4 j z, k4 j z]
      have ag13 : zg_ag [] [] [] [] u1 u3 := by
        refine ⟨fun j hj => (e2.1 j hj).trans (k2.1 j hj), fun j hj => (e2.2.1 j hj).trans (k2.2.1 j hj), fun j _ => ?_, fun j hj => (e2.2.2.2 j hj).trans (k2.2.2.2 j hj)⟩
        by_cases z : j = 2
        · rw [z]; exact a2eq
        · exact (e2.2.2.1 j (by simp; exact z)).trans (k2.2.2.1 j (by simp; exact z))
      have ag3 : zg_ag [13, 14] [] [6, 7] [] m u3 := ag1.tr (ag13.mono (by decide) (by decide) (by decide) (by decide))
      have hB3 : vB (wE Mo C w (10 * U) R0) (wG Mo C w (10 * U) H R0) n u3 b := by
        unfold vB
        rw [ag13.1 13 (by decide), ag13.1 14 (by decide), ag13.2.2.1 7 (by decide)]
        exact hB1
      obtain ⟨u4, b4, f1, f2, f3, f4, f5, f6⟩ := v_better (N := N) (w := w) (v3 := nI U) (v4 := nI K) (v5 := nI c) (ag96 := AG) hN hn bE bG plen (fun a ha => by have := plt a ha; omega) (by rw [ag13.2.2.1 6 (by decide)]; exact tA1) hB3 (fun q hq a ha => by
        have := wl_lt q _ (hl q hq) a ha
        omega)
      refine fin u4 b4 ?_ (ag3.tr (f2.mono (by decide) (by decide) (by decide) (by decide))) f3 (fun q hq => ?_) (fun q hq => ?_) f6
      · unfold fM9_way_b96
        rw [if_neg (nI_ge (by omega) (by omega)), g1', zf_bi_s, ga, if_neg (by decide)]
        have k1' : zf_loop (fun ag x => fM9_way_b122 N AG (nI n) w (nI U) (nI K) (nI c) (fun u v6 v7 => ag (u, v6, v7)) x.1 x.2.1 x.2.2) N (u1, 0, 0) = fM9_way_j156 N AG u2 (nI n) w (nI U) (nI K) (nI c) (nI (wE Mo C w (10 * U) R0 p)) := k1
        have e1' : fM9_way_j156 N AG u2 (nI n) w (nI U) (nI K) (nI c) (nI (wE Mo C w (10 * U) R0 p)) = fM9_way_j203 N AG u3 (nI n) w (nI U) (nI K) (nI c) (nI (wE Mo C w (10 * U) R0 p)) (nI (wG Mo C w (10 * U) H R0 p)) := e1
        rw [k1', e1', f1, pz_succ]
      · rcases f4 with z | z
        · exact hl q (by rw [← z]; exact hq)
        · have : q = p := Option.some.inj (hq.symm.trans z)
          rw [this]; exact pl
      · have : q = p := Option.some.inj (hq.symm.trans hd)
        rw [this]; exact f5
theorem v_pow {N n : Nat} {u : zs_T} {w v3 : Int32} (hn : n ≤ 8) : ∀ (r i fu : Nat), i + r = n → r < fu → zf_loop (fun ag x => fM9_way_b70 N u (nI n) w v3 (fun v4 v5 => ag (v4, v5)) x.1 x.2) fu (nI (3 ^ i), nI i) = fM9_way_j88 N u (nI n) w v3 (nI (3 ^ n)) := by
  intro r
  induction r with
  | zero =>
    intro i fu hi hf
    obtain ⟨fu, rfl⟩ : ∃ f', fu = f' + 1 := ⟨fu - 1, by omega⟩
    obtain rfl : i = n := by omega
    rw [zf_loop_s]
    show fM9_way_b70 N u (nI i) w v3 _ (nI (3 ^ i)) (nI i) = _
    unfold fM9_way_b70
    rw [if_pos (nI_le (by omega) (by omega))]
  | succ r ih =>
    intro i fu hi hf
    obtain ⟨fu, rfl⟩ : ∃ f', fu = f' + 1 := ⟨fu - 1, by omega⟩
    rw [zf_loop_s]
    obtain ⟨AG, hAG⟩ : ∃ A : Int32 → Int32 → Option (Int32 × zs_T), A = fun v4 v5 => zf_loop (fun ag x => fM9_way_b70 N u (nI n) w v3 (fun v4 v5 => ag (v4, v5)) x.1 x.2) fu (v4, v5) := ⟨_, rfl⟩
    show fM9_way_b70 N u (nI n) w v3 (fun v4 v5 => zf_loop (fun ag x => fM9_way_b70 N u (nI n) w v3 (fun v4 v5 => ag (v4, v5)) x.1 x.2) fu (v4, v5)) (nI (3 ^ i)) (nI i) = _
    rw [← hAG]
    unfold fM9_way_b70
    rw [if_neg (nI_ge (by omega) (by omega)), show (3 : Int32) * nI (3 ^ i) = nI (3 ^ (i + 1)) from by rw [Nat.pow_succ, Nat.mul_comm]; exact pk_mul 3 (3 ^ i), pz_succ, hAG]
    exact ih (i + 1) fu (by omega) (by omega)
theorem v_wasl {N : Nat} {v1 w v3 : Int32} : ∀ (r i fu : Nat) (u : zs_T), i + r = 6 → r < fu → (∀ j, j < i → zs_a u 5 j = zs_a u 2 j) → ∃ u', zf_loop (fun ag x => fM9_way_b37 N v1 w v3 (fun u v4 => ag (u, v4)) x.1 x.2) fu (u, nI i) = fM9_way_j64 N u' v1 w v3 ∧ zg_ag [] [] [5] [] u u' ∧ ∀ j, j < 6 → zs_a u' 5 j = zs_a u 2 j := by
  intro r
  induction r with
  | zero =>
    intro i fu u hi hf h5
    obtain ⟨fu, rfl⟩ : ∃ f', fu = f' + 1 := ⟨fu - 1, by omega⟩
    obtain rfl : i = 6 := by omega
    rw [zf_loop_s]
    refine ⟨u, ?_, zg_ag.rf, h5⟩
    show fM9_way_b37 N v1 w v3 _ u (nI 6) = _
    unfold fM9_way_b37
    rw [if_pos (show (6 : Int32) ≤ nI 6 by decide)]
  | succ r ih =>
    intro i fu u hi hf h5
    obtain ⟨fu, rfl⟩ : ∃ f', fu = f' + 1 := ⟨fu - 1, by omega⟩
    rw [zf_loop_s]
    obtain ⟨AG, hAG⟩ : ∃ A : zs_T → Int32 → Option (Int32 × zs_T), A = fun u v4 => zf_loop (fun ag x => fM9_way_b37 N v1 w v3 (fun u v4 => ag (u, v4)) x.1 x.2) fu (u, v4) := ⟨_, rfl⟩
    show ∃ u', fM9_way_b37 N v1 w v3 (fun u v4 => zf_loop (fun ag x => fM9_way_b37 N v1 w v3 (fun u v4 => ag (u, v4)) x.1 x.2) fu (u, v4)) u (nI i) = _ ∧ _
    rw [← hAG]
    have hz : zf_in (nI i) 6 = true := pz_in (by omega) (by decide)
    unfold fM9_way_b37
    rw [if_neg (show ¬ (6 : Int32) ≤ nI i from nI_ge (b := 6) (by omega) (by omega)), if_pos hz, if_pos hz, pz_cl (show i < 2 ^ 31 by omega), pz_succ]
    obtain ⟨u', b1, b2, b3⟩ := ih (i + 1) fu (zs_sa u 5 (upd (zs_a u 5) i (zs_a u 2 i))) (by omega) (by omega) (fun j hj => by
      show upd (zs_a u 5) i (zs_a u 2 i) j = zs_a u 2 j
      rw [pz_upd]
      by_cases z : j = i
      · rw [if_pos z, z]
      · rw [if_neg z]; exact h5 j (by omega))
    exact ⟨u', by rw [hAG]; exact b1, (zg_ag.rf.sa (by decide)).tr b2, b3⟩
theorem rb_I_way {k w' : Nat} {x m x' m' : zs_T} (h : rb_I k x m) (hx : zg_ag [7, 8, 9, 10, 11] [] [6, 7, 8, 9, 10] [] x x') (hm : zg_ag [12, 13, 14, 18, 19, 20] [] [5, 6, 7] [] m m') (hP : rb_P w' x' m') : rb_I k x' m' := by
  obtain ⟨c, hh, d, w, S, n, hT, hR, hA, -, hE, hL⟩ := h
  obtain ⟨xi, xl, xa, xb⟩ := hx
  obtain ⟨mi, ml, ma, mb⟩ := hm
  refine ⟨c, hh, d, w', S, n, rb_T_of hT (xi _ (by decide)) (xa _ (by decide)) (mi _ (by decide)) (ma _ (by decide)), rb_R_of hR (xa _ (by decide)) (fun j h1 h2 => mi j (by simp; omega)), rb_A_of hA ?_ ?_, hP, rb_E_of hE ?_ ?_, rb_L_of hL ?_ ?_⟩
  · exact ⟨xi _ (by decide), xi _ (by decide), xi _ (by decide), xi _ (by decide), xi _ (by decide), xi _ (by decide), xl _ (by decide), xa _ (by decide), xa _ (by decide), xa _ (by decide)⟩
  · exact ⟨mi _ (by decide), mi _ (by decide), mi _ (by decide), mi _ (by decide), mi _ (by decide), mi _ (by decide), ml _ (by decide), ma _ (by decide), ma _ (by decide), ma _ (by decide)⟩
  · exact ⟨xi _ (by decide), xi _ (by decide), xi _ (by decide), xa _ (by decide), xa _ (by decide), xa _ (by decide), xa _ (by decide), xa _ (by decide), xa _ (by decide), xa _ (by decide), xa _ (by decide)⟩
  · exact ⟨mi _ (by decide), mi _ (by decide), mi _ (by decide), ma _ (by decide), ma _ (by decide), ma _ (by decide), ma _ (by decide), ma _ (by decide), ma _ (by decide), ma _ (by decide)⟩
  · exact ⟨xa _ (by decide), xb _ (by decide), xa _ (by decide), xb _ (by decide), xb _ (by decide), xl _ (by decide)⟩
  · exact ⟨ma _ (by decide), ma _ (by decide), ma _ (by decide), mb _ (by decide), mb _ (by decide), ml _ (by decide)⟩
theorem sb_way {N k : Nat} {x m : zs_T} (hN : 6600 ≤ N) (hI : rb_I k x m) (a1 a2 : Int32) : zl_way N x m (rb_I (k + 1)) a1 a2 := by
  have hM := rb_mono k x m hI
  obtain ⟨c, hh, d, w, S, n0, hT, hR, hA, hP, hE, hL⟩ := id hM
  obtain ⟨g1, g2, g3, g4⟩ := g_A hA
  obtain ⟨A1, A2, A3, A4, A5, A6, A7, A8, A9, A10⟩ := id hA
  have hS := hE.1.2.2
  unfold zl_way fX8_way fM9_way
  rw [pf_isWarmth, pf_within, pf_b01, pf_b01, A5.1, A5.2.1]
  simp only [pz_le, pz_lt, Int32.reduceToInt]
  by_cases p : (1 ≤ a1.toInt ∧ a1.toInt ≤ 8) ∧ (-30 ≤ a2.toInt ∧ a2.toInt ≤ 40)
  · obtain ⟨p1, p2⟩ := p
    obtain ⟨n, hn', rfl⟩ := pz_of (x := a1) (by omega)
    rw [if_pos p1, if_pos p2, if_neg (show ¬ (nI n).toInt < 1 by omega), if_neg (show ¬ 8 < (nI n).toInt by omega), if_neg (show ¬ a2.toInt < -30 by omega), if_pos (show a2.toInt ≤ 40 by omega)]
    rw [pz_nI hn'] at p1
    have hup := pu_upOn (N := N) (d := d) (by omega) hE A5.2.2
    obtain ⟨m1, c1, c2⟩ := pu_ups (N := N) (d := d) (by omega) hE A5.2.2
    have hU : pn_up m n0 d S ≤ 80 := Nat.le_trans (pn_up_le m n0 d S) hS
    obtain ⟨U, hUe⟩ : ∃ U, U = pn_up m n0 d S := ⟨_, rfl⟩
    rw [← hUe] at hup c1 hU
    obtain ⟨x', p', b1, b2, b3, b4, b5, b6, b7⟩ := w_fb (N := N) (n := n) (H := hh) (U := U) (R0 := gq m 2) (Mo := gq m 3) (C := zs_a m 4) (w := a2) (x := x) (by omega) (by omega) A1.2.2.1 g1 p2 hU A1.1 (by rw [A2.1]; exact A2.2) (fun j hj => ⟨(g2 j (by have := A1.2.2.2; omega)).1, (g3 j hj).1, g4 j hj⟩)
    rw [A2.1] at b6 b7
    rw [hup, zf_bp_s, b1, zf_bi_s, c1, zf_bi_s]
    obtain ⟨m2, d1, d2, d3⟩ := v_wasl (N := N) (v1 := nI n) (w := a2) (v3 := nI U) 6 0 N m1 (by omega) (by omega) (fun j hj => by omega)
    have d1' : zf_loop (fun ag x => fM9_way_b37 N (nI n) a2 (nI U) (fun u v4 => ag (u, v4)) x.1 x.2) N (m1, 0) = fM9_way_j64 N m2 (nI n) a2 (nI U) := d1
    have e1 : fM9_way_j64 N m2 (nI n) a2 (nI U) = fM9_way_j88 N m2 (nI n) a2 (nI U) (nI (3 ^ n)) := v_pow (N := N) (by omega) n 0 N (by omega) (by omega)
    rw [d1', e1]
    have agm2 : zg_ag [12, 13, 14, 18, 19, 20] [] [5, 6, 7] [] m m2 := (c2.mono (by decide) (by decide) (by decide) (by decide)).tr (d2.mono (by decide) (by decide) (by decide) (by decide))
    have agm3 : zg_ag [12, 13, 14, 18, 19, 20] [] [5, 6, 7] [] m (zs_si m2 13 (-1)) := agm2.si (by decide)
    have hpow : 3 ^ n ≤ 6561 := Nat.le_trans (Nat.pow_le_pow_right (by decide) (show n ≤ 8 by omega)) (by decide)
    have m27 : zs_i (zs_si m2 13 (-1)) 7 = zs_i m 7 := agm3.1 7 (by decide)
    obtain ⟨m4, b', f1, f2, f3, f4, f5⟩ := v_codes (N := N) (n := n) (H := hh) (U := U) (K := 3 ^ n) (R0 := gq m 2) (Mo := gq m 3) (C := zs_a m 4) (w := a2) (m := zs_si m2 13 (-1)) (by omega) (by omega) hpow g1 p2 hU ((agm3.1 6 (by decide)).trans A1.2.1) (by rw [m27]; exact A2.2) (fun j hj => by rw [agm3.2.2.1 3 (by decide), agm3.2.2.1 4 (by decide)]; exact ⟨(g3 j hj).2, rfl⟩) (fun j hj => by rw [agm3.2.2.1 2 (by decide)]; exact (g2 j (by have := A1.2.2.2; omega)).2) (fun j hj => by
      show zs_a m2 5 j = _
      have := A1.2.2.2
      rw [d3 j (by omega), c2.2.2.1 2 (by decide)]
      exact (g2 j (by omega)).2) (3 ^ n) 0 N (zs_si m2 13 (-1)) none (by omega) (by omega) zg_ag.rf (Or.inl ⟨rfl, rfl⟩) (fun p hp => by cases hp) (fun c' hc' => by omega)
    rw [m27] at f4 f5
    have f1' : fM9_way_j88 N m2 (nI n) a2 (nI U) (nI (3 ^ n)) = fM9_way_j317 N m4 (nI n) := f1
    rw [f1']
    have all' : ∀ q, wl hh (zs_i m 7).toInt q → q.length = n → wn (wE (gq m 3) (zs_a m 4) a2 (10 * U) (gq m 2)) (wG (gq m 3) (zs_a m 4) a2 (10 * U) hh (gq m 2)) q b' := by
      intro q h1 h2
      obtain ⟨cc, hc1, hc2⟩ := wd_all n _ q A2.2.1 h1 h2
      exact f5 cc hc1 q hc2
    obtain ⟨y, y1, -⟩ := all' p' b6 b5
    rcases f3 with ⟨z, -⟩ | ⟨q, z1, z2, z3, z4, z5⟩
    · rw [y1] at z; cases z
    · have hq : q = p' := by
        refine wb_one (P := fun q => wl hh (zs_i m 7).toInt q ∧ q.length = n) ⟨f4 q z1, z2⟩ ⟨b6, b5⟩ z2 b5 (fun r hr => ?_) (fun r hr => b7 r hr.1 hr.2)
        obtain ⟨y2, y3, y4⟩ := all' r hr.1 hr.2
        have : y2 = q := Option.some.inj (y3.symm.trans z1)
        rw [this] at y4
        exact y4
      subst hq
      unfold fM9_way_j317
      rw [show zs_i (zs_si m4 12 (nI n)) 13 = nI (wE (gq m 3) (zs_a m 4) a2 (10 * U) (gq m 2) q) from z3]
      refine ⟨_, x', zs_si m4 12 (nI n), rfl, rfl, ?_⟩
      refine rb_I_way (w' := n) hM b2 ((agm3.tr (f2.mono (by decide) (by decide) (by decide) (by decide))).si (by decide)) ⟨b3, rfl, by omega, fun j hj => ?_⟩
      show zs_a x' 6 j = zs_a m4 7 j
      have hjq : j < q.length := by omega
      rw [b4 j q[j] (List.getElem?_eq_getElem hjq), z5 j q[j] (List.getElem?_eq_getElem hjq)]
  · refine ⟨-1, x, m, ?_, ?_, hM⟩
    · repeat' split
      all_goals first | rfl | (exfalso; omega)
    · repeat' split
      all_goals first | rfl | (exfalso; omega)
