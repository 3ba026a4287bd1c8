/-! close: the turn -/
theorem t_split {P : Nat → Nat} : ∀ (t : List Nat), (∃ o, o ∈ t ∧ ¬ P o = 0) → ∃ l1 o l2, t = l1 ++ o :: l2 ∧ (∀ a ∈ l1, P a = 0) ∧ ¬ P o = 0
  | [], h => by obtain ⟨o, h1, -⟩ := h; cases h1
  | a :: t, h => by
    by_cases q : P a = 0
    · obtain ⟨l1, o, l2, h1, h2, h3⟩ := t_split t (by
        obtain ⟨o, h1, h2⟩ := h
        rcases List.mem_cons.mp h1 with z | z
        · rw [z] at h2; exact absurd q h2
        · exact ⟨o, z, h2⟩)
      refine ⟨a :: l1, o, l2, by rw [h1]; rfl, fun b hb => ?_, h3⟩
      rcases List.mem_cons.mp hb with z | z
      · rw [z]; exact q
      · exact h2 b z
    · exact ⟨[], a, t, rfl, (fun b hb => by cases hb), q⟩
theorem t_perm {l1 l2 : List Nat} {o : Nat} : (l1 ++ l2 ++ [o]).Perm (l1 ++ o :: l2) := (List.perm_append_singleton o (l1 ++ l2)).trans List.perm_middle.symm
/-- an array that holds a list -/
def tA (A : Nat → Int32) (t : List Nat) : Prop := ∀ i o, t[i]? = some o → A i = nI o
theorem t_findX {N : Nat} {u : zs_T} {P : Nat → Nat} {l1 l2 : List Nat} {o : Nat} (hP : cP u 20 P) (hbP : qh P 12 ≤ 400000) (hA : tA (zs_a u 22) (l1 ++ o :: l2)) (hlen : (l1 ++ o :: l2).length = 12) (hlt : ∀ a ∈ l1 ++ o :: l2, a < 12) (h1 : ∀ a ∈ l1, P a = 0) (h2 : ¬ P o = 0) : ∀ (r i f : Nat), i + r = l1.length → r < f → zf_loop (fun ag x => fX1_takeTurn_b2 N u (fun v2 => ag v2) x) f (nI i) = fX1_takeTurn_j25 N u (nI l1.length) := by
  rw [List.length_append, List.length_cons] at hlen
  intro r
  induction r with
  | zero =>
    intro i f hi hf
    obtain ⟨f, rfl⟩ : ∃ f', f = f' + 1 := ⟨f - 1, by omega⟩
    obtain rfl : i = l1.length := by omega
    have ho := hlt o (by simp)
    have hPo := qh_ge P ho
    have hz : zf_in (nI l1.length) 12 = true := pz_in (by omega) (by decide)
    have hz2 : zf_in (nI o) 12 = true := pz_in ho (by decide)
    rw [zf_loop_s]
    show fX1_takeTurn_b2 N u _ (nI l1.length) = _
    unfold fX1_takeTurn_b2
    rw [if_neg (show ¬ (12 : Int32) ≤ nI l1.length from nI_ge (b := 12) (by omega) (by omega)), if_pos hz, pz_cl (show l1.length < 2 ^ 31 by omega), hA l1.length o (by rw [List.getElem?_append_right (Nat.le_refl _), Nat.sub_self]; rfl), if_pos hz2, pz_cl (show o < 2 ^ 31 by omega), hP o ho, if_neg (nI_ne0 (by omega) (by omega))]
  | succ r ih =>
    intro i f hi hf
    obtain ⟨f, rfl⟩ : ∃ f', f = f' + 1 := ⟨f - 1, by omega⟩
    have hil : i < l1.length := by omega
    have hm : l1[i] ∈ l1 := List.getElem_mem hil
    have ho := hlt l1[i] (by simp)
    have hz : zf_in (nI i) 12 = true := pz_in (by omega) (by decide)
    have hz2 : zf_in (nI l1[i]) 12 = true := pz_in ho (by decide)
    rw [zf_loop_s]
    obtain ⟨AG, hAG⟩ : ∃ A : Int32 → Option (Int32 × zs_T), A = fun v2 => zf_loop (fun ag x => fX1_takeTurn_b2 N u (fun v2 => ag v2) x) f v2 := ⟨_, rfl⟩
    show fX1_takeTurn_b2 N u (fun v2 => zf_loop (fun ag x => fX1_takeTurn_b2 N u (fun v2 => ag v2) x) f v2) (nI i) = _
    rw [← hAG]
    unfold fX1_takeTurn_b2
    rw [if_neg (show ¬ (12 : Int32) ≤ nI i from nI_ge (b := 12) (by omega) (by omega)), if_pos hz, pz_cl (show i < 2 ^ 31 by omega), hA i l1[i] (by rw [List.getElem?_append_left hil, List.getElem?_eq_getElem hil]), if_pos hz2, pz_cl (show l1[i] < 2 ^ 31 by omega), hP _ ho, h1 _ hm, if_pos (show nI 0 = 0 from rfl), pz_succ, hAG]
    exact ih (i + 1) f (by omega) (by omega)
theorem t_findM {N : Nat} {u : zs_T} {P : Nat → Nat} {l1 l2 : List Nat} {o : Nat} {ag164 : zs_T → Int32 → Option (Int32 × zs_T)} {v2 : Int64} {v4 : Int32} (hP : cP u 16 P) (hbP : qh P 12 ≤ 400000) (hA : tA (zs_a u 17) (l1 ++ o :: l2)) (hlen : (l1 ++ o :: l2).length = 12) (hlt : ∀ a ∈ l1 ++ o :: l2, a < 12) (h1 : ∀ a ∈ l1, P a = 0) (h2 : ¬ P o = 0) : ∀ (r i f : Nat), i + r = l1.length → r < f → zf_loop (fun ag x => fM9_close_b178 N ag164 u v2 v4 (fun v5 => ag v5) x) f (nI i) = fM9_close_j202 N ag164 u v2 v4 (nI l1.length) := by
  rw [List.length_append, List.length_cons] at hlen
  intro r
  induction r with
  | zero =>
    intro i f hi hf
    obtain ⟨f, rfl⟩ : ∃ f', f = f' + 1 := ⟨f - 1, by omega⟩
    obtain rfl : i = l1.length := by omega
    have ho := hlt o (by simp)
    have hPo := qh_ge P ho
    have hz : zf_in (nI l1.length) 12 = true := pz_in (by omega) (by decide)
    have hz2 : zf_in (nI o) 12 = true := pz_in ho (by decide)
    rw [zf_loop_s]
    show fM9_close_b178 N ag164 u v2 v4 _ (nI l1.length) = _
    unfold fM9_close_b178
    rw [if_pos hz, pz_cl (show l1.length < 2 ^ 31 by omega), hA l1.length o (by rw [List.getElem?_append_right (Nat.le_refl _), Nat.sub_self]; rfl), if_pos hz2, pz_cl (show o < 2 ^ 31 by omega), hP o ho, if_neg (nI_ne0 (by omega) (by omega))]
  | succ r ih =>
    intro i f hi hf
    obtain ⟨f, rfl⟩ : ∃ f', f = f' + 1 := ⟨f - 1, by omega⟩
    have hil : i < l1.length := by omega
    have hm : l1[i] ∈ l1 := List.getElem_mem hil
    have ho := hlt l1[i] (by simp)
    have hz : zf_in (nI i) 12 = true := pz_in (by omega) (by decide)
    have hz2 : zf_in (nI l1[i]) 12 = true := pz_in ho (by decide)
    rw [zf_loop_s]
    obtain ⟨AG, hAG⟩ : ∃ A : Int32 → Option (Int32 × zs_T), A = fun v5 => zf_loop (fun ag x => fM9_close_b178 N ag164 u v2 v4 (fun v5 => ag v5) x) f v5 := ⟨_, rfl⟩
    show fM9_close_b178 N ag164 u v2 v4 (fun v5 => zf_loop (fun ag x => fM9_close_b178 N ag164 u v2 v4 (fun v5 => ag v5) x) f v5) (nI i) = _
    rw [← hAG]
    unfold fM9_close_b178
    rw [if_pos hz, pz_cl (show i < 2 ^ 31 by omega), hA i l1[i] (by rw [List.getElem?_append_left hil, List.getElem?_eq_getElem hil]), if_pos hz2, pz_cl (show l1[i] < 2 ^ 31 by omega), hP _ ho, h1 _ hm, if_pos (show nI 0 = 0 from rfl), pz_succ, hAG]
    exact ih (i + 1) f (by omega) (by omega)
/-- nobody has a part -/
theorem t_noneX {N : Nat} {u : zs_T} {t : List Nat} (hP : cP u 20 (fun _ => 0)) (hA : tA (zs_a u 22) t) (hlen : t.length = 12) (hlt : ∀ a ∈ t, a < 12) : ∀ (r i f : Nat), i + r = 12 → r < f → zf_loop (fun ag x => fX1_takeTurn_b2 N u (fun v2 => ag v2) x) f (nI i) = some (-1, u) := by
  intro r
  induction r with
  | zero =>
    intro i f hi hf
    obtain ⟨f, rfl⟩ : ∃ f', f = f' + 1 := ⟨f - 1, by omega⟩
    obtain rfl : i = 12 := by omega
    rw [zf_loop_s]
    rfl
  | succ r ih =>
    intro i f hi hf
    obtain ⟨f, rfl⟩ : ∃ f', f = f' + 1 := ⟨f - 1, by omega⟩
    have hil : i < t.length := by omega
    have ho := hlt t[i] (List.getElem_mem hil)
    have hz : zf_in (nI i) 12 = true := pz_in (by omega) (by decide)
    have hz2 : zf_in (nI t[i]) 12 = true := pz_in ho (by decide)
    rw [zf_loop_s]
    obtain ⟨AG, hAG⟩ : ∃ A : Int32 → Option (Int32 × zs_T), A = fun v2 => zf_loop (fun ag x => fX1_takeTurn_b2 N u (fun v2 => ag v2) x) f v2 := ⟨_, rfl⟩
    show fX1_takeTurn_b2 N u (fun v2 => zf_loop (fun ag x => fX1_takeTurn_b2 N u (fun v2 => ag v2) x) f v2) (nI i) = _
    rw [← hAG]
    unfold fX1_takeTurn_b2
    rw [if_neg (show ¬ (12 : Int32) ≤ nI i from nI_ge (b := 12) (by omega) (by omega)), if_pos hz, pz_cl (show i < 2 ^ 31 by omega), hA i t[i] (List.getElem?_eq_getElem hil), if_pos hz2, pz_cl (show t[i] < 2 ^ 31 by omega), hP _ ho, if_pos (show nI 0 = 0 from rfl), pz_succ, hAG]
    exact ih (i + 1) f (by omega) (by omega)
theorem t_shX {N p : Nat} {A : Nat → Int32} {v3 : Int32} : ∀ (r v f : Nat) (u : zs_T), v + r = 11 → p ≤ v → r < f → (∀ i, i < 12 → zs_a u 22 i = if p ≤ i ∧ i < v then A (i + 1) else A i) → ∃ u', zf_loop (fun ag x => fX1_takeTurn_b43 N v3 (fun u v4 => ag (u, v4)) x.1 x.2) f (u, nI v) = some (v3, u') ∧ zg_ag [] [] [22] [] u u' ∧ ∀ i, i < 12 → zs_a u' 22 i = if i < p then A i else if i < 11 then A (i + 1) else v3 := by
  intro r
  induction r with
  | zero =>
    intro v f u hv hp hf hA
    obtain ⟨f, rfl⟩ : ∃ f', f = f' + 1 := ⟨f - 1, by omega⟩
    obtain rfl : v = 11 := by omega
    rw [zf_loop_s]
    refine ⟨zs_sa u 22 (upd (zs_a u 22) 11 v3), rfl, zg_ag.rf.sa (by decide), fun i hi => ?_⟩
    show upd (zs_a u 22) 11 v3 i = _
    rw [pz_upd]
    by_cases q : i = 11
    · rw [if_pos q, if_neg (by omega), if_neg (by omega)]
    · rw [if_neg q, hA i hi]
      by_cases q2 : i < p
      · rw [if_neg (by omega), if_pos q2]
      · rw [if_pos (by omega), if_neg q2, if_pos (by omega)]
  | succ r ih =>
    intro v f u hv hp hf hA
    obtain ⟨f, rfl⟩ : ∃ f', f = f' + 1 := ⟨f - 1, by omega⟩
    rw [zf_loop_s]
    obtain ⟨AG, hAG⟩ : ∃ A : zs_T → Int32 → Option (Int32 × zs_T), A = fun u v4 => zf_loop (fun ag x => fX1_takeTurn_b43 N v3 (fun u v4 => ag (u, v4)) x.1 x.2) f (u, v4) := ⟨_, rfl⟩
    show ∃ u', fX1_takeTurn_b43 N v3 (fun u v4 => zf_loop (fun ag x => fX1_takeTurn_b43 N v3 (fun u v4 => ag (u, v4)) x.1 x.2) f (u, v4)) u (nI v) = _ ∧ _
    rw [← hAG]
    have hz : zf_in (nI v) 12 = true := pz_in (by omega) (by decide)
    have hz1 : zf_in (nI (v + 1)) 12 = true := pz_in (by omega) (by decide)
    unfold fX1_takeTurn_b43
    rw [if_neg (show ¬ (11 : Int32) ≤ nI v from nI_ge (b := 11) (by omega) (by omega)), pz_succ, if_pos hz1, if_pos hz, pz_cl (show v < 2 ^ 31 by omega), pz_cl (show v + 1 < 2 ^ 31 by omega), hA (v + 1) (by omega), if_neg (by omega)]
    obtain ⟨u', b1, b2, b3⟩ := ih (v + 1) f (zs_sa u 22 (upd (zs_a u 22) v (A (v + 1)))) (by omega) (by omega) (by omega) (fun i hi => by
      show upd (zs_a u 22) v (A (v + 1)) i = _
      rw [pz_upd]
      by_cases q : i = v
      · rw [if_pos q, if_pos (by omega), q]
      · rw [if_neg q, hA i hi]
        by_cases q2 : p ≤ i ∧ i < v
        · rw [if_pos q2, if_pos (by omega)]
        · rw [if_neg q2, if_neg (by omega)])
    exact ⟨u', by rw [hAG]; exact b1, (zg_ag.rf.sa (by decide)).tr b2, b3⟩
theorem t_shM {N p : Nat} {A : Nat → Int32} {v3 : Int32} : ∀ (r v f : Nat) (u : zs_T), v + r = 11 → p ≤ v → r < f → (∀ i, i < 12 → zs_a u 17 i = if p ≤ i ∧ i < v then A (i + 1) else A i) → ∃ u', zf_loop (fun ag x => fM9_endsTurn_b9 N v3 (fun u v4 => ag (u, v4)) x.1 x.2) f (u, nI v) = some u' ∧ zg_ag [] [] [17] [] u u' ∧ ∀ i, i < 12 → zs_a u' 17 i = if i < p then A i else if i < 11 then A (i + 1) else v3 := by
  intro r
  induction r with
  | zero =>
    intro v f u hv hp hf hA
    obtain ⟨f, rfl⟩ : ∃ f', f = f' + 1 := ⟨f - 1, by omega⟩
    obtain rfl : v = 11 := by omega
    rw [zf_loop_s]
    refine ⟨zs_sa u 17 (upd (zs_a u 17) 11 v3), rfl, zg_ag.rf.sa (by decide), fun i hi => ?_⟩
    show upd (zs_a u 17) 11 v3 i = _
    rw [pz_upd]
    by_cases q : i = 11
    · rw [if_pos q, if_neg (by omega), if_neg (by omega)]
    · rw [if_neg q, hA i hi]
      by_cases q2 : i < p
      · rw [if_neg (by omega), if_pos q2]
      · rw [if_pos (by omega), if_neg q2, if_pos (by omega)]
  | succ r ih =>
    intro v f u hv hp hf hA
    obtain ⟨f, rfl⟩ : ∃ f', f = f' + 1 := ⟨f - 1, by omega⟩
    rw [zf_loop_s]
    obtain ⟨AG, hAG⟩ : ∃ A : zs_T → Int32 → Option zs_T, A = fun u v4 => zf_loop (fun ag x => fM9_endsTurn_b9 N v3 (fun u v4 => ag (u, v4)) x.1 x.2) f (u, v4) := ⟨_, rfl⟩
    show ∃ u', fM9_endsTurn_b9 N v3 (fun u v4 => zf_loop (fun ag x => fM9_endsTurn_b9 N v3 (fun u v4 => ag (u, v4)) x.1 x.2) f (u, v4)) u (nI v) = _ ∧ _
    rw [← hAG]
    have hz : zf_in (nI v) 12 = true := pz_in (by omega) (by decide)
    have hz1 : zf_in (nI (v + 1)) 12 = true := pz_in (by omega) (by decide)
    unfold fM9_endsTurn_b9
    rw [if_neg (show ¬ (11 : Int32) ≤ nI v from nI_ge (b := 11) (by omega) (by omega)), pz_succ, if_pos hz1, if_pos hz, pz_cl (show v < 2 ^ 31 by omega), pz_cl (show v + 1 < 2 ^ 31 by omega), hA (v + 1) (by omega), if_neg (by omega)]
    obtain ⟨u', b1, b2, b3⟩ := ih (v + 1) f (zs_sa u 17 (upd (zs_a u 17) v (A (v + 1)))) (by omega) (by omega) (by omega) (fun i hi => by
      show upd (zs_a u 17) v (A (v + 1)) i = _
      rw [pz_upd]
      by_cases q : i = v
      · rw [if_pos q, if_pos (by omega), q]
      · rw [if_neg q, hA i hi]
        by_cases q2 : p ≤ i ∧ i < v
        · rw [if_pos q2, if_pos (by omega)]
        · rw [if_neg q2, if_neg (by omega)])
    exact ⟨u', by rw [hAG]; exact b1, (zg_ag.rf.sa (by decide)).tr b2, b3⟩
/-- the shifted array holds the shifted list -/
theorem t_new {A B : Nat → Int32} {l1 l2 : List Nat} {o : Nat} (hlen : (l1 ++ o :: l2).length = 12) (hA : tA A (l1 ++ o :: l2)) (hB : ∀ i, i < 12 → B i = if i < l1.length then A i else if i < 11 then A (i + 1) else nI o) : tA B (l1 ++ l2 ++ [o]) := by
  rw [List.length_append, List.length_cons] at hlen
  intro i a ha
  have hi : i < 12 := by
    have := (List.getElem?_eq_some_iff.mp ha).1
    simp only [List.length_append, List.length_cons, List.length_nil] at this
    omega
  rw [hB i hi]
  by_cases h1 : i < l1.length
  · rw [if_pos h1]
    rw [List.append_assoc, List.getElem?_append_left h1] at ha
    exact hA i a (by rw [List.getElem?_append_left h1]; exact ha)
  · rw [if_neg h1]
    by_cases h2 : i < 11
    · rw [if_pos h2]
      rw [List.append_assoc, List.getElem?_append_right (by omega), List.getElem?_append_left (by omega)] at ha
      refine hA (i + 1) a ?_
      rw [List.getElem?_append_right (by omega), show i + 1 - l1.length = (i - l1.length) + 1 by omega, List.getElem?_cons_succ]
      exact ha
    · rw [if_neg h2]
      rw [List.getElem?_append_right (by rw [List.length_append]; omega), List.length_append, show i - (l1.length + l2.length) = 0 by omega] at ha
      have : a = o := (Option.some.inj ha).symm
      rw [this]
theorem t_takeX {N : Nat} {u : zs_T} {P : Nat → Nat} {l1 l2 : List Nat} {o : Nat} (hN : 200 ≤ N) (hP : cP u 20 P) (hbP : qh P 12 ≤ 400000) (hA : tA (zs_a u 22) (l1 ++ o :: l2)) (hlen : (l1 ++ o :: l2).length = 12) (hlt : ∀ a ∈ l1 ++ o :: l2, a < 12) (h1 : ∀ a ∈ l1, P a = 0) (h2 : ¬ P o = 0) : ∃ u', fX1_takeTurn N u = some (nI o, u') ∧ zg_ag [] [] [22] [] u u' ∧ tA (zs_a u' 22) (l1 ++ l2 ++ [o]) := by
  have hl := hlen
  rw [List.length_append, List.length_cons] at hl
  have hz : zf_in (nI l1.length) 12 = true := pz_in (by omega) (by decide)
  have e1 : fX1_takeTurn N u = fX1_takeTurn_j25 N u (nI l1.length) := t_findX hP hbP hA hlen hlt h1 h2 l1.length 0 N (by omega) (by omega)
  have e2 : zs_a u 22 l1.length = nI o := hA l1.length o (by rw [List.getElem?_append_right (Nat.le_refl _), Nat.sub_self]; rfl)
  obtain ⟨u', b1, b2, b3⟩ := t_shX (N := N) (p := l1.length) (A := zs_a u 22) (v3 := nI o) (11 - l1.length) l1.length N u (by omega) (Nat.le_refl _) (by omega) (fun i hi => by rw [if_neg (by omega)])
  refine ⟨u', ?_, b2, t_new hlen hA b3⟩
  rw [e1]
  unfold fX1_takeTurn_j25
  rw [if_pos (show nI l1.length < 12 from nI_lt (b := 12) (by omega) (by decide)), if_pos hz, pz_cl (show l1.length < 2 ^ 31 by omega), e2]
  exact b1
theorem t_endM {N : Nat} {u : zs_T} {l1 l2 : List Nat} {o : Nat} (hN : 200 ≤ N) (hA : tA (zs_a u 17) (l1 ++ o :: l2)) (hlen : (l1 ++ o :: l2).length = 12) : ∃ u', fM9_endsTurn N u (nI l1.length) = some u' ∧ zg_ag [] [] [17] [] u u' ∧ tA (zs_a u' 17) (l1 ++ l2 ++ [o]) := by
  have hl := hlen
  rw [List.length_append, List.length_cons] at hl
  have hz : zf_in (nI l1.length) 12 = true := pz_in (by omega) (by decide)
  have e2 : zs_a u 17 l1.length = nI o := hA l1.length o (by rw [List.getElem?_append_right (Nat.le_refl _), Nat.sub_self]; rfl)
  obtain ⟨u', b1, b2, b3⟩ := t_shM (N := N) (p := l1.length) (A := zs_a u 17) (v3 := nI o) (11 - l1.length) l1.length N u (by omega) (Nat.le_refl _) (by omega) (fun i hi => by rw [if_neg (by omega)])
  refine ⟨u', ?_, b2, t_new hlen hA b3⟩
  unfold fM9_endsTurn
  rw [if_pos hz, pz_cl (show l1.length < 2 ^ 31 by omega), e2]
  exact b1
/-- the rest is given out by the turn, on both sides -/
theorem t_turn {N : Nat} {P Ch : Nat → Nat} (hN : 200 ≤ N) (hbP : qh P 12 ≤ 400000) (h0 : 0 < qh P 12) : ∀ (L g f1 f2 : Nat) (u v : zs_T) (t : List Nat) (La : Nat → Nat), L + g ≤ 12 → L < f1 → L < f2 → cP u 20 P → cP v 16 P → tA (zs_a u 22) t → tA (zs_a v 17) t → t.Perm (List.range 12) → (∀ o, o < 12 → zs_a u 21 o = nI (La o) ∧ zs_a v 19 o = nI (La o) ∧ zs_a v 18 o = nI (Ch o + La o)) → ∃ u' v' t' La', zf_loop (fun ag x => fX1_partCheeses_b47 N (fun u v3 v4 => ag (u, v3, v4)) x.1 x.2.1 x.2.2) f1 (u, nI L, nI g) = fX1_partCheeses_j94 N u' 0 ∧ zf_loop (fun ag x => fM9_close_b164 N (lN (qh P 12)) (fun u v4 => ag (u, v4)) x.1 x.2) f2 (v, nI L) = fM9_close_j229 N v' (lN (qh P 12)) 0 ∧ zg_ag [] [] [21, 22] [] u u' ∧ zg_ag [] [] [17, 18, 19] [] v v' ∧ tA (zs_a u' 22) t' ∧ tA (zs_a v' 17) t' ∧ t'.Perm (List.range 12) ∧ (∀ o, o < 12 → zs_a u' 21 o = nI (La' o) ∧ zs_a v' 19 o = nI (La' o) ∧ zs_a v' 18 o = nI (Ch o + La' o)) ∧ qh La' 12 = qh La 12 + L := by
  intro L
  induction L with
  | zero =>
    intro g f1 f2 u v t La hg hf1 hf2 hPu hPv hAu hAv hperm hr
    obtain ⟨f1, rfl⟩ : ∃ f', f1 = f' + 1 := ⟨f1 - 1, by omega⟩
    obtain ⟨f2, rfl⟩ : ∃ f', f2 = f' + 1 := ⟨f2 - 1, by omega⟩
    rw [zf_loop_s, zf_loop_s]
    refine ⟨u, v, t, La, ?_, ?_, zg_ag.rf, zg_ag.rf, hAu, hAv, hperm, hr, rfl⟩
    · show fX1_partCheeses_b47 N _ u (nI 0) (nI g) = _
      unfold fX1_partCheeses_b47
      rw [if_pos (show nI 0 ≤ 0 by decide), ite_self]
      rfl
    · show fM9_close_b164 N (lN (qh P 12)) _ v (nI 0) = _
      unfold fM9_close_b164
      rw [if_pos (show nI 0 ≤ 0 by decide)]
      rfl
  | succ L ih =>
    intro g f1 f2 u v t La hg hf1 hf2 hPu hPv hAu hAv hperm hr
    obtain ⟨f1, rfl⟩ : ∃ f', f1 = f' + 1 := ⟨f1 - 1, by omega⟩
    obtain ⟨f2, rfl⟩ : ∃ f', f2 = f' + 1 := ⟨f2 - 1, by omega⟩
    have hlen : t.length = 12 := by rw [hperm.length_eq, List.length_range]
    have hlt : ∀ a ∈ t, a < 12 := fun a ha => List.mem_range.mp (hperm.mem_iff.mp ha)
    obtain ⟨l1, o, l2, e1, e2, e3⟩ := t_split (P := P) t (by
      have : ∃ o, o < 12 ∧ ¬ P o = 0 := by
        apply Classical.byContradiction
        intro hno
        have hz : qh P 12 = qh (fun _ => 0) 12 := qh_congr (fun s hs => by
          apply Classical.byContradiction
          intro z
          exact hno ⟨s, hs, z⟩)
        rw [qh_zero] at hz
        omega
      obtain ⟨o, h1, h2⟩ := this
      exact ⟨o, hperm.mem_iff.mpr (List.mem_range.mpr h1), h2⟩)
    subst e1
    have ho : o < 12 := hlt o (by simp)
    have hl := hlen
    rw [List.length_append, List.length_cons] at hl
    have hzo : zf_in (nI o) 12 = true := pz_in ho (by decide)
    have hzp : zf_in (nI l1.length) 12 = true := pz_in (by omega) (by decide)
    obtain ⟨u1, a1, a2, a3⟩ := t_takeX hN hPu hbP hAu hlen hlt e2 e3
    have hvo : zs_a v 17 l1.length = nI o := hAv l1.length o (by rw [List.getElem?_append_right (Nat.le_refl _), Nat.sub_self]; rfl)
    obtain ⟨v2, b1, b2, b3⟩ := t_endM (N := N) (u := zs_sa (zs_sa v 18 (upd (zs_a v 18) o (zs_a v 18 o + 1))) 19 (upd (zs_a v 19) o (zs_a v 19 o + 1))) hN hAv hlen
    rw [zf_loop_s, zf_loop_s]
    obtain ⟨A1, hA1⟩ : ∃ A : zs_T → Int32 → Int32 → Option (Int32 × zs_T), A = fun u v3 v4 => zf_loop (fun ag x => fX1_partCheeses_b47 N (fun u v3 v4 => ag (u, v3, v4)) x.1 x.2.1 x.2.2) f1 (u, v3, v4) := ⟨_, rfl⟩
    obtain ⟨A2, hA2⟩ : ∃ A : zs_T → Int32 → Option (Int32 × zs_T), A = fun u v4 => zf_loop (fun ag x => fM9_close_b164 N (lN (qh P 12)) (fun u v4 => ag (u, v4)) x.1 x.2) f2 (u, v4) := ⟨_, rfl⟩
    have eX : fX1_partCheeses_b47 N A1 u (nI (L + 1)) (nI g) = A1 (zs_sa u1 21 (upd (zs_a u1 21) o (zs_a u1 21 o + 1))) (nI L) (nI (g + 1)) := by
      unfold fX1_partCheeses_b47
      rw [if_neg (show ¬ (12 : Int32) ≤ nI g from nI_ge (b := 12) (by omega) (by omega)), if_neg (nI_nle (by omega) (by omega)), a1, zf_bi_s, if_neg (show ¬ nI o = -1 from fun z => by
        have := congrArg Int32.toInt z
        rw [pz_nI (by omega)] at this
        have h2 : (o : Int) = -1 := this
        omega), if_pos hzo, if_pos hzo, pz_cl (show o < 2 ^ 31 by omega), nI_m1, pz_succ]
    have eM : fM9_close_b164 N (lN (qh P 12)) A2 v (nI (L + 1)) = A2 v2 (nI L) := by
      unfold fM9_close_b164
      have hfind : zf_loop (fun ag x => fM9_close_b178 N A2 v (lN (qh P 12)) (nI (L + 1)) (fun v5 => ag v5) x) N 0 = fM9_close_j202 N A2 v (lN (qh P 12)) (nI (L + 1)) (nI l1.length) := t_findM hPv hbP hAv hlen hlt e2 e3 l1.length 0 N (by omega) (by omega)
      rw [if_neg (nI_nle (by omega) (by omega)), c_cmp (show qh P 12 < 2 ^ 31 by omega), if_neg (show ¬ qh P 12 = 0 by omega), if_neg (by decide), hfind]
      unfold fM9_close_j202
      rw [if_pos hzp, pz_cl (show l1.length < 2 ^ 31 by omega), hvo, c_g ho, zf_bv_s, b1, zf_bv_s, nI_pred]
    have agu : zg_ag [] [] [21, 22] [] u (zs_sa u1 21 (upd (zs_a u1 21) o (zs_a u1 21 o + 1))) := (a2.mono (by decide) (by decide) (by decide) (by decide)).sa (by decide)
    have agv : zg_ag [] [] [17, 18, 19] [] v v2 := ((zg_ag.rf.sa (by decide)).sa (by decide)).tr (b2.mono (by decide) (by decide) (by decide) (by decide))
    obtain ⟨u', v', t', La', c1, c2, c3, c4, c5, c6, c7, c8, c9⟩ := ih (g + 1) f1 f2 (zs_sa u1 21 (upd (zs_a u1 21) o (zs_a u1 21 o + 1))) v2 (l1 ++ l2 ++ [o]) (fun a => La a + if a = o then 1 else 0) (by omega) (by omega) (by omega) (fun a ha => by rw [agu.2.2.1 20 (by decide)]; exact hPu a ha) (fun a ha => by rw [agv.2.2.1 16 (by decide)]; exact hPv a ha) a3 b3 (t_perm.trans hperm) (fun a ha => by
      obtain ⟨r1, r2, r3⟩ := hr a ha
      have v19 : zs_a v2 19 a = upd (zs_a v 19) o (zs_a v 19 o + 1) a := congrFun (b2.2.2.1 19 (by decide)) a
      have v18 : zs_a v2 18 a = upd (zs_a v 18) o (zs_a v 18 o + 1) a := congrFun (b2.2.2.1 18 (by decide)) a
      have u21 : zs_a (zs_sa u1 21 (upd (zs_a u1 21) o (zs_a u1 21 o + 1))) 21 a = upd (zs_a u 21) o (zs_a u 21 o + 1) a := by
        show upd (zs_a u1 21) o (zs_a u1 21 o + 1) a = _
        rw [a2.2.2.1 21 (by decide)]
      rw [v19, v18, u21, pz_upd, pz_upd, pz_upd]
      by_cases q : a = o
      · subst q
        simp only [if_true]
        rw [r1, r2, r3, pz_succ, pz_succ]
        exact ⟨rfl, rfl, rfl⟩
      · simp only [if_neg q]
        exact ⟨r1, r2, r3⟩)
    refine ⟨u', v', t', La', ?_, ?_, agu.tr c3, agv.tr c4, c5, c6, c7, c8, ?_⟩
    · show fX1_partCheeses_b47 N (fun u v3 v4 => zf_loop (fun ag x => fX1_partCheeses_b47 N (fun u v3 v4 => ag (u, v3, v4)) x.1 x.2.1 x.2.2) f1 (u, v3, v4)) u (nI (L + 1)) (nI g) = _
      rw [← hA1, eX, hA1]
      exact c1
    · show fM9_close_b164 N (lN (qh P 12)) (fun u v4 => zf_loop (fun ag x => fM9_close_b164 N (lN (qh P 12)) (fun u v4 => ag (u, v4)) x.1 x.2) f2 (u, v4)) v (nI (L + 1)) = _
      rw [← hA2, eM, hA2]
      exact c2
    · rw [c9, qh_add, qh_one, if_pos ho]
      omega
