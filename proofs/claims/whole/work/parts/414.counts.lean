/-! the tallies of a trace are counts of days -/
theorem px_tt (t : px_S) {d1 d2 : Nat} (h1 : t.2.2.1 ≤ d1) (h2 : d1 ≤ d2) : px_t (px_t t d1) d2 = px_t t d2 := by
  obtain ⟨s, U, f, H⟩ := t
  dsimp only at h1
  unfold px_t
  dsimp only
  congr 2
  · split
    · rfl
    · omega
  · congr 1
    funext o
    split
    · omega
    · rfl
theorem px_t0 (t : px_S) : px_t t t.2.2.1 = t := by
  obtain ⟨s, U, f, H⟩ := t
  unfold px_t
  dsimp only
  congr 2
  · split <;> omega
  · congr 1
    funext o
    split <;> omega
theorem px_run_same {W T D : Nat → Int32} : ∀ (l : List Nat) (t : px_S), (∀ e ∈ l, px_dn D e = t.2.2.1) → px_run W T D t l = (pz_run W T t.1 l, t.2)
  | [], _, _ => rfl
  | e :: l, t, h => by
    have he := h e List.mem_cons_self
    have hs : px_step W T D t e = (pz_do W T t.1 e, t.2) := by
      unfold px_step
      rw [he, px_t0]
    show px_run W T D (px_step W T D t e) l = _
    rw [hs, px_run_same l (pz_do W T t.1 e, t.2) (fun e' h' => h e' (List.mem_cons_of_mem _ h'))]
    rfl
theorem px_run_day {W T D : Nat → Int32} (l : List Nat) (t : px_S) {d : Nat} (h : ∀ e ∈ l, px_dn D e = d) (hf : t.2.2.1 ≤ d) : px_t (px_run W T D t l) (d + 1) = px_t (pz_run W T t.1 l, (px_t t d).2) (d + 1) := by
  cases l with
  | nil =>
    show px_t t (d + 1) = px_t (px_t t d) (d + 1)
    rw [px_tt t hf (by omega)]
  | cons e l =>
    show px_t (px_run W T D (px_step W T D t e) l) (d + 1) = _
    have hs : px_step W T D t e = (pz_do W T t.1 e, (px_t t d).2) := by
      unfold px_step
      rw [h e List.mem_cons_self]
    rw [hs, px_run_same l _ (fun e' h' => h e' (List.mem_cons_of_mem _ h'))]
    rfl
/-- the sheep's state behind day d -/
def pn_S (W O D T : Nat → Int32) (k s : Nat) (s0 : pz_S) (d : Nat) : pz_S := pz_run W T s0 (pz_evs O D k s d)
def pn_U (W O D T : Nat → Int32) (k s : Nat) (s0 : pz_S) : Nat → Nat
  | 0 => 0
  | d + 1 => pn_U W O D T k s s0 d + (if (pn_S W O D T k s s0 (d + 1)).1 = 0 then 0 else 1)
def pn_H (W O D T : Nat → Int32) (k s : Nat) (s0 : pz_S) (o : Nat) : Nat → Nat
  | 0 => 0
  | d + 1 => pn_H W O D T k s s0 o d + (if nI o = (pn_S W O D T k s s0 (d + 1)).2.2 then 1 else 0)
theorem pz_evs_s (O D : Nat → Int32) (k s d : Nat) : pz_evs O D k s (d + 1) = pz_evs O D k s d ++ pz_day O D k s (d + 1) := by
  unfold pz_evs
  rw [List.range'_concat, List.flatMap_append]
  simp only [List.flatMap_cons, List.flatMap_nil, List.append_nil]
  rw [show 1 + 1 * d = d + 1 by omega]
theorem px_run_app (W T D : Nat → Int32) (t : px_S) (l1 l2 : List Nat) : px_run W T D t (l1 ++ l2) = px_run W T D (px_run W T D t l1) l2 := by
  simp [px_run, List.foldl_append]
theorem pn_f {W T D : Nat → Int32} : ∀ (l : List Nat) (t : px_S) {d : Nat}, (∀ e ∈ l, px_dn D e ≤ d) → t.2.2.1 ≤ d → (px_run W T D t l).2.2.1 ≤ d
  | [], _, _, _, h => h
  | e :: l, t, d, h, ht => by
    show (px_run W T D (px_step W T D t e) l).2.2.1 ≤ d
    exact pn_f l _ (fun e' h' => h e' (List.mem_cons_of_mem _ h')) (h e List.mem_cons_self)
theorem pn_1 {W T D : Nat → Int32} : ∀ (l : List Nat) (t : px_S), (px_run W T D t l).1 = pz_run W T t.1 l
  | [], _ => rfl
  | e :: l, t => by
    show (px_run W T D (px_step W T D t e) l).1 = _
    rw [pn_1 l]
    rfl
theorem pn_dn {O D : Nat → Int32} {k s d e : Nat} (h : e ∈ pz_day O D k s d) (hd : d < 2 ^ 31) : e < k ∧ O e = nI s ∧ D e = nI d ∧ px_dn D e = d := by
  unfold pz_day at h
  rw [List.mem_filter, List.mem_range] at h
  have h2 : O e = nI s ∧ D e = nI d := by simpa using h.2
  refine ⟨h.1, h2.1, h2.2, ?_⟩
  unfold px_dn
  rw [h2.2, pz_nI hd]
  rfl
theorem pn_tally (W O D T : Nat → Int32) (k s : Nat) (s0 : pz_S) : ∀ d, d ≤ 150 → px_t (px_run W T D (s0, 0, 1, fun _ => 0) (pz_evs O D k s d)) (d + 1) = (pn_S W O D T k s s0 d, pn_U W O D T k s s0 d, d + 1, fun o => pn_H W O D T k s s0 o d)
  | 0, _ => by
    unfold px_t
    simp only [pz_evs, List.range'_zero, List.flatMap_nil, px_run, List.foldl_nil]
    congr 2
    · split <;> rfl
    · congr 1
      funext o
      split <;> rfl
  | d + 1, hd => by
    have ih := pn_tally W O D T k s s0 d (by omega)
    have hf : (px_run W T D (s0, 0, 1, fun _ => 0) (pz_evs O D k s d)).2.2.1 ≤ d + 1 := by
      refine pn_f _ _ (fun e he => ?_) (by show 1 ≤ d + 1; omega)
      unfold pz_evs at he
      obtain ⟨d', h1, h2⟩ := List.mem_flatMap.mp he
      rw [List.mem_range'_1] at h1
      rw [(pn_dn h2 (by omega)).2.2.2]
      omega
    rw [pz_evs_s, px_run_app, px_run_day _ _ (fun e he => (pn_dn he (by omega)).2.2.2) hf, pn_1]
    have hS : pn_S W O D T k s s0 (d + 1) = pz_run W T (pz_run W T s0 (pz_evs O D k s d)) (pz_day O D k s (d + 1)) := by
      unfold pn_S
      rw [pz_evs_s, pz_run_app]
    rw [ih, ← hS]
    unfold px_t
    dsimp only
    congr 2
    · rw [pn_U]
      split <;> omega
    · congr 1
      funext o
      rw [pn_H]
      split <;> omega
