/-! the class's Trace: a run with tallies -/
/-- up, dead, who has it; days up; the first day not told; days had -/
abbrev px_S : Type := pz_S × Nat × Nat × (Nat → Nat)
def px_st (u : zs_T) : pz_S := (zs_i u 15, zs_i u 16, zs_i u 14)
abbrev px_ag (u v : zs_T) : Prop := zg_ag [14, 15, 16, 17, 18] [] [18] [] u v
def px_t (t : px_S) (d : Nat) : px_S := (t.1, if t.1.1 = 0 then t.2.1 else t.2.1 + (d - t.2.2.1), d, fun o => if nI o = t.1.2.2 then t.2.2.2 o + (d - t.2.2.1) else t.2.2.2 o)
/-- a trace that holds t -/
def px_R (u : zs_T) (t : px_S) : Prop := px_st u = t.1 ∧ zs_i u 17 = nI t.2.1 ∧ zs_i u 18 = nI t.2.2.1 ∧ (∀ o, o < 12 → zs_a u 18 o = nI (t.2.2.2 o)) ∧ (1 ≤ t.2.2.1 ∧ t.2.2.1 ≤ 151 ∧ t.2.1 < t.2.2.1 ∧ ∀ o, o < 12 → t.2.2.2 o < t.2.2.1) ∧ (0 ≤ t.1.2.2.toInt ∧ t.1.2.2.toInt < 12) ∧ zf_z t.1.1 = true ∧ zf_z t.1.2.1 = true ∧ (t.1.1 = 0 ∨ t.1.2.1 = 0)
theorem px_tally {u : zs_T} {t : px_S} {d : Nat} (h : px_R u t) (hd : t.2.2.1 ≤ d) (hd2 : d ≤ 151) : ∃ u', fX7_tallyBefore u (nI d) = some u' ∧ px_ag u u' ∧ px_R u' (px_t t d) := by
  obtain ⟨s, U, f, H⟩ := t
  obtain ⟨up, dead, has⟩ := s
  obtain ⟨h1, h2, h3, h4, ⟨h5, h6, h7, h8⟩, h9, h10, h11, h12⟩ := h
  dsimp only at h2 h3 h4 h5 h6 h7 h8 h9 h10 h11 h12 hd
  have e15 : zs_i u 15 = up := congrArg Prod.fst h1
  have e16 : zs_i u 16 = dead := congrArg (fun z => z.2.1) h1
  have e14 : zs_i u 14 = has := congrArg (fun z => z.2.2) h1
  unfold fX7_tallyBefore
  rw [h3, pk_sub hd, e14]
  by_cases p : f = d
  · subst p
    rw [Nat.sub_self, if_neg (by decide)]
    refine ⟨u, rfl, zg_ag.rf, ?_⟩
    refine ⟨h1, ?_, h3, fun o ho => ?_, ⟨h5, h6, ?_, fun o ho => ?_⟩, h9, h10, h11, h12⟩
    · show zs_i u 17 = nI (if up = 0 then U else U + (f - f)); rw [h2, Nat.sub_self, Nat.add_zero]; split <;> rfl
    · show zs_a u 18 o = nI (if nI o = has then H o + (f - f) else H o); rw [h4 o ho, Nat.sub_self, Nat.add_zero]; split <;> rfl
    · show (if up = 0 then U else U + (f - f)) < f; rw [Nat.sub_self, Nat.add_zero]; split <;> exact h7
    · show (if nI o = has then H o + (f - f) else H o) < f; rw [Nat.sub_self, Nat.add_zero]; split <;> exact h8 o ho
  · obtain ⟨o, ho, rfl⟩ := pz_of h9.1
    rw [pz_nI ho] at h9
    have hz : zf_in (nI o) 12 = true := pz_in (by omega) (by decide)
    rw [if_pos (show (0 : Int32) < nI (d - f) from nI_lt (a := 0) (show 0 < d - f by omega) (by omega)), if_pos hz, if_pos hz, pz_cl ho]
    rw [show zs_i (zs_sa u 18 (upd (zs_a u 18) o (zs_a u 18 o + nI (d - f)))) 15 = up from e15, show zs_i (zs_sa u 18 (upd (zs_a u 18) o (zs_a u 18 o + nI (d - f)))) 17 = nI U from h2]
    have hH : ∀ j, j < 12 → upd (zs_a u 18) o (zs_a u 18 o + nI (d - f)) j = nI (if nI j = nI o then H j + (d - f) else H j) := by
      intro j hj
      rw [pz_upd]
      by_cases e : j = o
      · subst e; rw [if_pos rfl, if_pos rfl, h4 j hj, nI_add]
      · rw [if_neg e, if_neg (fun z => e ((nI_eq (by omega) (by omega)).mp z)), h4 j hj]
    have hb : ∀ j, j < 12 → (if nI j = nI o then H j + (d - f) else H j) < d := by
      intro j hj
      have := h8 j hj
      split <;> omega
    by_cases q : up = 0
    · rw [if_pos q]
      refine ⟨_, rfl, (zg_ag.rf.sa (by decide)).si (by decide), ?_⟩
      refine ⟨h1, ?_, rfl, hH, ⟨by show 1 ≤ d; omega, hd2, ?_, hb⟩, by show 0 ≤ (nI o).toInt ∧ (nI o).toInt < 12; rw [pz_nI ho]; exact h9, h10, h11, h12⟩
      · show zs_i u 17 = nI (if up = 0 then U else U + (d - f)); rw [if_pos q, h2]
      · show (if up = 0 then U else U + (d - f)) < d; rw [if_pos q]; omega
    · rw [if_neg q, nI_add]
      refine ⟨_, rfl, ((zg_ag.rf.sa (by decide)).si (by decide)).si (by decide), ?_⟩
      refine ⟨h1, ?_, rfl, hH, ⟨by show 1 ≤ d; omega, hd2, ?_, hb⟩, by show 0 ≤ (nI o).toInt ∧ (nI o).toInt < 12; rw [pz_nI ho]; exact h9, h10, h11, h12⟩
      · show nI (U + (d - f)) = nI (if up = 0 then U else U + (d - f)); rw [if_neg q]
      · show (if up = 0 then U else U + (d - f)) < d; rw [if_neg q]; omega
theorem px_fits {u : zs_T} {W T : Nat → Int32} {e : Nat} (hz : zf_z (zs_i u 15) = true) : fX7_fits u (W e) (T e) = some (if pz_fit W T (px_st u) e = true then 1 else 0) := by
  unfold fX7_fits pz_fit px_st
  simp only [if_pos hz]
  simp only [zf_z, Bool.or_eq_true, beq_iff_eq] at hz
  by_cases s0 : W e = 0
  · simp only [if_pos s0]
    by_cases s1 : zs_i u 15 = 0 <;> by_cases s2 : zs_i u 16 = 0 <;> simp [s1, s2]
  · by_cases s1 : W e = 1
    · simp only [if_neg s0, if_pos s1, if_pos (Or.inl s1 : W e = 1 ∨ W e = 2)]
      rcases hz with h | h <;> simp [h]
    · by_cases s2 : W e = 2
      · simp only [if_neg s0, if_neg s1, if_pos s2, if_pos (Or.inr s2 : W e = 1 ∨ W e = 2)]
        rcases hz with h | h <;> simp [h]
      · simp only [if_neg s0, if_neg s1, if_neg s2, if_neg (fun h : W e = 1 ∨ W e = 2 => h.elim s1 s2)]
        by_cases s3 : zs_i u 16 = 0 <;> by_cases s4 : T e = zs_i u 14 <;> simp [s3, s4]
theorem px_follow {u : zs_T} {t : px_S} {W T : Nat → Int32} {e : Nat} (h : px_R u t) (hf : pz_fit W T t.1 e = true) (hT : W e = 3 → 0 ≤ (T e).toInt ∧ (T e).toInt < 12) (hW : 0 ≤ (W e).toInt ∧ (W e).toInt < 4) : ∃ u', fX7_follow u (W e) (T e) = some u' ∧ px_ag u u' ∧ px_R u' (pz_do W T t.1 e, t.2) := by
  obtain ⟨s, U, f, H⟩ := t
  obtain ⟨up, dead, has⟩ := s
  obtain ⟨h1, h2, h3, h4, h5, h9, h10, h11, h12⟩ := h
  dsimp only at h2 h3 h4 h5 h9 h10 h11 h12 hf
  have e15 : zs_i u 15 = up := congrArg Prod.fst h1
  have e16 : zs_i u 16 = dead := congrArg (fun z => z.2.1) h1
  have e14 : zs_i u 14 = has := congrArg (fun z => z.2.2) h1
  unfold fX7_follow
  unfold pz_fit at hf
  by_cases s3 : W e = 3
  · rw [if_pos s3]
    refine ⟨_, rfl, zg_ag.rf.si (by decide), ?_⟩
    unfold pz_do
    rw [if_pos s3]
    exact ⟨by show (zs_i u 15, zs_i u 16, T e) = _; rw [e15, e16], h2, h3, h4, h5, hT s3, h10, h11, h12⟩
  · rw [if_neg s3]
    by_cases s0 : W e = 0
    · rw [if_pos s0, if_neg (by rw [s0]; decide)]
      rw [if_pos s0] at hf
      have hf2 := of_decide_eq_true hf
      dsimp only at hf2
      refine ⟨_, rfl, (zg_ag.rf.si (by decide)).si (by decide), ?_⟩
      unfold pz_do
      rw [if_neg s3, if_pos s0, if_neg (by rw [s0]; decide)]
      exact ⟨by show ((1 : Int32), (0 : Int32), zs_i u 14) = (1, dead, has); rw [e14, hf2.2], h2, h3, h4, h5, h9, rfl, h11, Or.inr hf2.2⟩
    · have s12 : W e = 1 ∨ W e = 2 := by
        have n0 : (W e).toInt ≠ 0 := zf_ne s0
        have n3 : (W e).toInt ≠ 3 := zf_ne s3
        rcases (show (W e).toInt = 1 ∨ (W e).toInt = 2 by omega) with z | z
        · exact Or.inl (pz_eq.mpr z)
        · exact Or.inr (pz_eq.mpr z)
      rw [if_neg s0, if_pos s12] at hf
      have hf2 := of_decide_eq_true hf
      dsimp only at hf2
      have hdead : dead = 0 := h12.resolve_left hf2
      rw [if_neg s0]
      by_cases s2 : W e = 2
      · rw [if_pos s2]
        refine ⟨_, rfl, (zg_ag.rf.si (by decide)).si (by decide), ?_⟩
        unfold pz_do
        rw [if_neg s3, if_neg s0, if_pos s2]
        exact ⟨by show ((0 : Int32), (1 : Int32), zs_i u 14) = (0, 1, has); rw [e14], h2, h3, h4, h5, h9, rfl, rfl, Or.inl rfl⟩
      · rw [if_neg s2]
        refine ⟨_, rfl, (zg_ag.rf.si (by decide)).si (by decide), ?_⟩
        unfold pz_do
        rw [if_neg s3, if_neg s0, if_neg s2]
        exact ⟨by show ((0 : Int32), (0 : Int32), zs_i u 14) = (0, dead, has); rw [e14, hdead], h2, h3, h4, h5, h9, rfl, h11, Or.inl rfl⟩
