theorem rb_T_of {c : Nat} {x m x' m' : zs_T} (h : rb_T c x m) (h1 : zs_i x' 2 = zs_i x 2) (h2 : zs_a x' 0 = zs_a x 0) (h3 : zs_i m' 0 = zs_i m 0) (h4 : zs_a m' 0 = zs_a m 0) : rb_T c x' m' := by
  unfold rb_T; rw [h1, h2, h3, h4]; exact h
theorem rb_R_of {x m x' m' : zs_T} (h : rb_R x m) (h1 : zs_a x' 1 = zs_a x 1) (h2 : ∀ j, 2 ≤ j → j < 6 → zs_i m' j = zs_i m j) : rb_R x' m' := by
  obtain ⟨a, b⟩ := h
  refine ⟨?_, fun j q1 q2 => by rw [h2 j q1 q2]; exact b j q1 q2⟩
  rw [h1, h2 2 (by decide) (by decide), h2 3 (by decide) (by decide), h2 4 (by decide) (by decide), h2 5 (by decide) (by decide)]
  exact a
theorem rb_A_of {k h d : Nat} {x m x' m' : zs_T} (hA : rb_A k h d x m) (h1 : zs_i x' 3 = zs_i x 3 ∧ zs_i x' 5 = zs_i x 5 ∧ zs_i x' 4 = zs_i x 4 ∧ zs_i x' 0 = zs_i x 0 ∧ zs_i x' 1 = zs_i x 1 ∧ zs_i x' 6 = zs_i x 6 ∧ zs_l x' 0 = zs_l x 0 ∧ zs_a x' 3 = zs_a x 3 ∧ zs_a x' 4 = zs_a x 4 ∧ zs_a x' 5 = zs_a x 5) (h2 : zs_i m' 6 = zs_i m 6 ∧ zs_i m' 7 = zs_i m 7 ∧ zs_i m' 8 = zs_i m 8 ∧ zs_i m' 9 = zs_i m 9 ∧ zs_i m' 10 = zs_i m 10 ∧ zs_i m' 11 = zs_i m 11 ∧ zs_l m' 0 = zs_l m 0 ∧ zs_a m' 2 = zs_a m 2 ∧ zs_a m' 3 = zs_a m 3 ∧ zs_a m' 4 = zs_a m 4) : rb_A k h d x' m' := by
  obtain ⟨a1, a2, a3, a4, a5, a6, a7, a8, a9, a10⟩ := h1
  obtain ⟨b1, b2, b3, b4, b5, b6, b7, b8, b9, b10⟩ := h2
  unfold rb_A; rw [a1, a2, a3, a4, a5, a6, a7, a8, a9, a10, b1, b2, b3, b4, b5, b6, b7, b8, b9, b10]; exact hA
theorem rb_P_of {w : Nat} {x m x' m' : zs_T} (h : rb_P w x m) (h1 : zs_i x' 7 = zs_i x 7) (h2 : zs_a x' 6 = zs_a x 6) (h3 : zs_i m' 12 = zs_i m 12) (h4 : zs_a m' 7 = zs_a m 7) : rb_P w x' m' := by
  unfold rb_P; rw [h1, h2, h3, h4]; exact h
theorem rb_E_of {S n : Nat} {x m x' m' : zs_T} (h : rb_E S n x m) (h1 : zs_i x' 12 = zs_i x 12 ∧ zs_i x' 13 = zs_i x 13 ∧ zs_i x' 19 = zs_i x 19 ∧ zs_a x' 11 = zs_a x 11 ∧ zs_a x' 12 = zs_a x 12 ∧ zs_a x' 13 = zs_a x 13 ∧ zs_a x' 14 = zs_a x 14 ∧ zs_a x' 15 = zs_a x 15 ∧ zs_a x' 16 = zs_a x 16 ∧ zs_a x' 17 = zs_a x 17 ∧ zs_a x' 19 = zs_a x 19) (h2 : zs_i m' 15 = zs_i m 15 ∧ zs_i m' 16 = zs_i m 16 ∧ zs_i m' 17 = zs_i m 17 ∧ zs_a m' 8 = zs_a m 8 ∧ zs_a m' 9 = zs_a m 9 ∧ zs_a m' 10 = zs_a m 10 ∧ zs_a m' 11 = zs_a m 11 ∧ zs_a m' 12 = zs_a m 12 ∧ zs_a m' 13 = zs_a m 13 ∧ zs_a m' 14 = zs_a m 14) : rb_E S n x' m' := by
  obtain ⟨a1, a2, a3, a4, a5, a6, a7, a8, a9, a10, a11⟩ := h1
  obtain ⟨b1, b2, b3, b4, b5, b6, b7, b8, b9, b10⟩ := h2
  unfold rb_E rb_E1 rb_E2 rb_st; rw [a1, a2, a3, a4, a5, a6, a7, a8, a9, a10, a11, b1, b2, b3, b4, b5, b6, b7, b8, b9, b10]; exact h
theorem rb_L_of {k : Nat} {x m x' m' : zs_T} (h : rb_L k x m) (h1 : zs_a x' 22 = zs_a x 22 ∧ zs_b x' 0 = zs_b x 0 ∧ zs_a x' 21 = zs_a x 21 ∧ zs_b x' 1 = zs_b x 1 ∧ zs_b x' 2 = zs_b x 2 ∧ zs_l x' 1 = zs_l x 1) (h2 : zs_a m' 17 = zs_a m 17 ∧ zs_a m' 18 = zs_a m 18 ∧ zs_a m' 19 = zs_a m 19 ∧ zs_b m' 0 = zs_b m 0 ∧ zs_b m' 1 = zs_b m 1 ∧ zs_l m' 1 = zs_l m 1) : rb_L k x' m' := by
  obtain ⟨a1, a2, a3, a4, a5, a6⟩ := h1
  obtain ⟨b1, b2, b3, b4, b5, b6⟩ := h2
  unfold rb_L; rw [a1, a2, a3, a4, a5, a6, b1, b2, b3, b4, b5, b6]; exact h
/-- what may change at will -/
abbrev rb_xs (x x' : zs_T) : Prop := zg_ag [8, 9, 10, 11, 14, 15, 16, 17, 18] [2] [2, 7, 8, 9, 10, 18, 20] [] x x'
abbrev rb_ms (m m' : zs_T) : Prop := zg_ag [1, 13, 14, 18, 19, 20] [] [1, 5, 6, 15, 16] [] m m'
theorem rb_I_ag {k : Nat} {x m x' m' : zs_T} (h : rb_I k x m) (hx : rb_xs x x') (hm : rb_ms m m') : rb_I k x' m' := by
  obtain ⟨c, hh, d, w, S, n, hT, hR, hA, hP, hE, hL⟩ := h
  obtain ⟨xi, xl, xa, xb⟩ := hx
  obtain ⟨mi, ml, ma, mb⟩ := hm
  refine ⟨c, hh, d, w, S, n, rb_T_of hT (xi _ (by decide)) (xa _ (by decide)) (mi _ (by decide)) (ma _ (by decide)), rb_R_of hR (xa _ (by decide)) (fun j h1 h2 => mi j (by simp; omega)), rb_A_of hA ?_ ?_, rb_P_of hP (xi _ (by decide)) (xa _ (by decide)) (mi _ (by decide)) (ma _ (by decide)), rb_E_of hE ?_ ?_, rb_L_of hL ?_ ?_⟩
  · exact ⟨xi _ (by decide), xi _ (by decide), xi _ (by decide), xi _ (by decide), xi _ (by decide), xi _ (by decide), xl _ (by decide), xa _ (by decide), xa _ (by decide), xa _ (by decide)⟩
  · exact ⟨mi _ (by decide), mi _ (by decide), mi _ (by decide), mi _ (by decide), mi _ (by decide), mi _ (by decide), ml _ (by decide), ma _ (by decide), ma _ (by decide), ma _ (by decide)⟩
  · exact ⟨xi _ (by decide), xi _ (by decide), xi _ (by decide), xa _ (by decide), xa _ (by decide), xa _ (by decide), xa _ (by decide), xa _ (by decide), xa _ (by decide), xa _ (by decide), xa _ (by decide)⟩
  · exact ⟨mi _ (by decide), mi _ (by decide), mi _ (by decide), ma _ (by decide), ma _ (by decide), ma _ (by decide), ma _ (by decide), ma _ (by decide), ma _ (by decide), ma _ (by decide)⟩
  · exact ⟨xa _ (by decide), xb _ (by decide), xa _ (by decide), xb _ (by decide), xb _ (by decide), xl _ (by decide)⟩
  · exact ⟨ma _ (by decide), ma _ (by decide), ma _ (by decide), mb _ (by decide), mb _ (by decide), ml _ (by decide)⟩
-- small functions
theorem pf_within (v a b : Int32) : fX8_within v a b = some (if a ≤ v ∧ v ≤ b then 1 else 0) := by
  unfold fX8_within
  simp only [pz_lt, pz_le]
  by_cases h1 : v.toInt < a.toInt
  · rw [if_pos h1, if_neg (by omega)]
  · by_cases h2 : b.toInt < v.toInt
    · rw [if_neg h1, if_pos h2, if_neg (by omega)]
    · rw [if_neg h1, if_neg h2, if_pos (by omega)]
theorem pf_z01 (p : Prop) [Decidable p] : zf_z (if p then 1 else 0) = true := by
  by_cases h : p
  · rw [if_pos h]; rfl
  · rw [if_neg h]; rfl
theorem pf_ze (p : Prop) [Decidable p] : ((if p then (1 : Int32) else 0) = 0) ↔ ¬ p := by
  by_cases h : p
  · rw [if_pos h]; simp [h]
  · rw [if_neg h]; simp [h]
/-- a test, then one of two roads -/
theorem pf_b01 {ρ : Type} (p : Prop) [Decidable p] (a b : Option ρ) : (zf_bp (some (if p then (1 : Int32) else 0)) fun r => if r = 0 then a else b) = if p then b else a := by
  by_cases h : p
  · simp [zf_bp, h]
  · simp [zf_bp, h]
theorem pf_isOwner (v : Int32) : fX8_isOwner v = some (if 0 ≤ v ∧ v ≤ 11 then 1 else 0) := by
  unfold fX8_isOwner; rw [pf_within]; simp only [zf_bp]; rw [if_pos (pf_z01 _)]
theorem pf_isWarmth (v : Int32) : fX8_isWarmth v = some (if -30 ≤ v ∧ v ≤ 40 then 1 else 0) := by
  unfold fX8_isWarmth; rw [pf_within]; simp only [zf_bp]; rw [if_pos (pf_z01 _)]
theorem pf_pred {h : Nat} (h1 : h ≤ 1000) (v : Int32) : (0 ≤ v ∧ v ≤ nI h - 1) ↔ (0 ≤ v.toInt ∧ v.toInt < h) := by
  rw [pz_le, pz_le]
  have e : (nI h - 1).toInt = (h : Int) - 1 := by
    rw [pz_sub]
    · rw [pz_nI (by omega)]; rfl
    · rw [pz_nI (by omega)]; show _ ≤ (h : Int) - 1; omega
    · rw [pz_nI (by omega)]; show (h : Int) - 1 < _; omega
  rw [e]
  show (0 ≤ v.toInt ∧ _) ↔ _
  omega
theorem pf_has2 {u : zs_T} {h : Nat} (hu : zs_i u 3 = nI h) (h1 : h ≤ 6) (v : Int32) : fX2_has u v = some (if 0 ≤ v.toInt ∧ v.toInt < h then 1 else 0) := by
  unfold fX2_has; rw [pf_within]; simp only [zf_bp]; rw [if_pos (pf_z01 _), hu]
  simp only [pf_pred (show h ≤ 1000 by omega)]
theorem pf_has4 {u : zs_T} {h : Nat} (hu : zs_i u 12 = nI h) (h1 : h ≤ 80) (v : Int32) : fX4_has u v = some (if 0 ≤ v.toInt ∧ v.toInt < h then 1 else 0) := by
  unfold fX4_has; rw [pf_within]; simp only [zf_bp]; rw [if_pos (pf_z01 _), hu]
  simp only [pf_pred (show h ≤ 1000 by omega)]
theorem pf_know {u : zs_T} {n : Nat} (hu : zs_i u 13 = nI n) (h1 : n ≤ 100) (v : Int32) : fX4_isKnowing u v = some (if 0 ≤ v.toInt ∧ v.toInt ≤ n then 1 else 0) := by
  unfold fX4_isKnowing; rw [pf_within]; simp only [zf_bp]; rw [if_pos (pf_z01 _), hu]
  simp only [pz_le, pz_nI (show n < 2 ^ 31 by omega)]
  rfl
theorem pf_mh {u : zs_T} {h : Nat} (hu : zs_i u 6 = nI h) (h1 : h ≤ 6) (v : Int32) : fM9_isHeight u v = some (if 0 ≤ v.toInt ∧ v.toInt < h then 1 else 0) := by
  unfold fM9_isHeight; rw [hu]; simp only [pz_le, pz_lt, pz_nI (show h < 2 ^ 31 by omega)]
  by_cases q1 : v.toInt < (0 : Int32).toInt
  · have q : v.toInt < 0 := q1
    rw [if_pos q1, if_neg (by omega)]
  · have q : ¬ v.toInt < 0 := q1
    rw [if_neg q1]
    by_cases q2 : (h : Int) ≤ v.toInt
    · rw [if_pos q2, if_neg (by omega)]
    · rw [if_neg q2, if_pos (by omega)]
theorem pf_ms {u : zs_T} {h : Nat} (hu : zs_i u 15 = nI h) (h1 : h ≤ 80) (v : Int32) : fM9_isSheep u v = some (if 0 ≤ v.toInt ∧ v.toInt < h then 1 else 0) := by
  unfold fM9_isSheep; rw [hu]; simp only [pz_le, pz_lt, pz_nI (show h < 2 ^ 31 by omega)]
  by_cases q1 : v.toInt < (0 : Int32).toInt
  · have q : v.toInt < 0 := q1
    rw [if_pos q1, if_neg (by omega)]
  · have q : ¬ v.toInt < 0 := q1
    rw [if_neg q1]
    by_cases q2 : (h : Int) ≤ v.toInt
    · rw [if_pos q2, if_neg (by omega)]
    · rw [if_neg q2, if_pos (by omega)]
theorem pf_mk {u : zs_T} {n : Nat} (hu : zs_i u 16 = nI n) (h1 : n ≤ 100) (v : Int32) : fM9_isKnowing u v = some (if 0 ≤ v.toInt ∧ v.toInt ≤ n then 1 else 0) := by
  unfold fM9_isKnowing; rw [hu]; simp only [pz_le, pz_lt, pz_nI (show n < 2 ^ 31 by omega)]
  by_cases q1 : v.toInt < (0 : Int32).toInt
  · have q : v.toInt < 0 := q1
    rw [if_pos q1, if_neg (by omega)]
  · have q : ¬ v.toInt < 0 := q1
    rw [if_neg q1]
    by_cases q2 : (n : Int) < v.toInt
    · rw [if_pos q2, if_neg (by omega)]
    · rw [if_neg q2, if_pos (by omega)]
