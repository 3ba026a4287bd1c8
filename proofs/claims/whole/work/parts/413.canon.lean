/-! the order of entries by days -/
def pc_all (D : Nat → Int32) (n d : Nat) : List Nat := (List.range n).filter (fun e => D e == nI d)
theorem pc_can_eq (D : Nat → Int32) (n d : Nat) : pz_can D n d = (List.range' 1 d).flatMap (pc_all D n) := rfl
theorem pc_mem {D : Nat → Int32} {n d e : Nat} (h : e ∈ pc_all D n d) (hd : d < 2 ^ 31) : e < n ∧ D e = nI d ∧ px_dn D e = d := by
  unfold pc_all at h
  rw [List.mem_filter, List.mem_range] at h
  have h2 : D e = nI d := by simpa using h.2
  refine ⟨h.1, h2, ?_⟩
  unfold px_dn
  rw [h2, pz_nI hd]
  rfl
theorem pc_split (D : Nat → Int32) (n d : Nat) (hd : d ≤ 150) : pz_can D n 150 = pz_can D n d ++ (List.range' (d + 1) (150 - d)).flatMap (pc_all D n) := by
  rw [pc_can_eq, pc_can_eq, ← List.flatMap_append]
  congr 1
  rw [show d + 1 = 1 + 1 * d by omega, List.range'_append]
  congr 1
  omega
theorem pc_sorted (D : Nat → Int32) (n a c : Nat) (h : a + c ≤ 1000) : ((List.range' a c).flatMap (pc_all D n)).Pairwise (fun x y => px_dn D x ≤ px_dn D y) := by
  rw [List.pairwise_flatMap]
  constructor
  · intro d hd
    rw [List.mem_range'_1] at hd
    refine List.Pairwise.imp_of_mem (R := fun _ _ => True) ?_ (List.pairwise_of_forall (fun _ _ => trivial))
    intro x y hx hy _
    rw [(pc_mem hx (by omega)).2.2, (pc_mem hy (by omega)).2.2]
    exact Nat.le_refl _
  · have := List.pairwise_lt_range' (s := a) (n := c) (step := 1)
    refine List.Pairwise.imp_of_mem ?_ this
    intro d1 d2 h1 h2 hlt x hx y hy
    rw [List.mem_range'_1] at h1 h2
    rw [(pc_mem hx (by omega)).2.2, (pc_mem hy (by omega)).2.2]
    exact Nat.le_of_lt hlt
theorem pc_range (k : Nat) (P : Nat → Bool) : ∀ r, (List.range (k + r)).filter (fun e => decide (e < k) && P e) = (List.range k).filter P
  | 0 => by
    apply List.filter_congr
    intro e he
    rw [Nat.add_zero, List.mem_range] at he
    simp [he]
  | r + 1 => by
    rw [← Nat.add_assoc, List.range_succ, List.filter_append, pc_range k P r]
    simp
    intro z; omega
theorem pc_rl {O D : Nat → Int32} {n k s last : Nat} (hk : k ≤ n) (hl : last ≤ 150) : px_rl O D k s last (pz_can D n 150) = pz_evs O D k s last := by
  unfold px_rl
  rw [pc_split D n last hl, List.takeWhile_append_of_pos]
  · have hB : ((List.range' (last + 1) (150 - last)).flatMap (pc_all D n)).takeWhile (fun e => decide (px_dn D e ≤ last)) = [] := by
      cases hb : (List.range' (last + 1) (150 - last)).flatMap (pc_all D n) with
      | nil => rfl
      | cons e l =>
        have he : e ∈ (List.range' (last + 1) (150 - last)).flatMap (pc_all D n) := by rw [hb]; exact List.mem_cons_self
        obtain ⟨d, h1, h2⟩ := List.mem_flatMap.mp he
        rw [List.mem_range'_1] at h1
        rw [List.takeWhile_cons_of_neg]
        simp only [decide_eq_true_eq]
        rw [(pc_mem h2 (by omega)).2.2]
        omega
    rw [hB, List.append_nil, pc_can_eq, List.filter_flatMap]
    unfold pz_evs
    congr 1
    funext d
    unfold pc_all pz_day
    rw [List.filter_filter]
    obtain ⟨r, rfl⟩ : ∃ r, n = k + r := ⟨n - k, by omega⟩
    rw [← pc_range k _ r]
    apply List.filter_congr
    intro e _
    simp [Bool.and_assoc]
  · intro e he
    rw [pc_can_eq] at he
    obtain ⟨d, h1, h2⟩ := List.mem_flatMap.mp he
    rw [List.mem_range'_1] at h1
    simp only [decide_eq_true_eq]
    rw [(pc_mem h2 (by omega)).2.2]
    omega
theorem pc_all_s (D : Nat → Int32) (n d : Nat) : pc_all D (n + 1) d = pc_all D n d ++ (if D n = nI d then [n] else []) := by
  unfold pc_all
  rw [List.range_succ, List.filter_append]
  congr 1
  by_cases h : D n = nI d <;> simp [h]
theorem pc_flat_ne {D : Nat → Int32} {n a c : Nat} (h : ∀ d, a ≤ d → d < a + c → ¬ D n = nI d) : (List.range' a c).flatMap (pc_all D (n + 1)) = (List.range' a c).flatMap (pc_all D n) := by
  rw [List.flatMap_def, List.flatMap_def]
  congr 1
  apply List.map_congr_left
  intro d hd
  rw [List.mem_range'_1] at hd
  rw [pc_all_s, if_neg (h d hd.1 hd.2), List.append_nil]
/-- a new entry stands behind those of its day -/
theorem pc_ins {D : Nat → Int32} {n d : Nat} (h : D n = nI d) (h1 : 1 ≤ d) (h2 : d ≤ 150) : pz_can D (n + 1) 150 = pz_can D n d ++ n :: (List.range' (d + 1) (150 - d)).flatMap (pc_all D n) := by
  have hne : ∀ d', d' ≠ d → d' < 1000 → ¬ D n = nI d' := fun d' q1 q2 e => q1 ((nI_eq (by omega) (by omega)).mp (e.symm.trans h))
  rw [pc_split D (n + 1) d h2, pc_flat_ne (fun d' q1 q2 => hne d' (by omega) (by omega))]
  have : pz_can D (n + 1) d = pz_can D n d ++ [n] := by
    obtain ⟨c, rfl⟩ : ∃ c, d = c + 1 := ⟨d - 1, by omega⟩
    rw [pc_can_eq, pc_can_eq, List.range'_concat, List.flatMap_append, List.flatMap_append, pc_flat_ne (fun d' q1 q2 => hne d' (by omega) (by omega))]
    simp only [List.flatMap_cons, List.flatMap_nil, List.append_nil]
    rw [show 1 + 1 * c = c + 1 by omega, pc_all_s, if_pos h, List.append_assoc]
  rw [this, List.append_assoc]
  rfl
theorem pc_len {D : Nat → Int32} : ∀ {n : Nat}, (∀ e, e < n → 1 ≤ (D e).toInt ∧ (D e).toInt ≤ 150) → (pz_can D n 150).length = n
  | 0, _ => by rw [pz_can0]; rfl
  | n + 1, h => by
    obtain ⟨g1, g2, g3⟩ := px_dnI (h n (by omega))
    have ih := pc_len (n := n) (fun e he => h e (by omega))
    rw [pc_split D n (px_dn D n) g3, List.length_append] at ih
    rw [pc_ins g1 g2 g3, List.length_append, List.length_cons]
    omega
theorem pc_lt {D : Nat → Int32} {n e : Nat} (h : e ∈ pz_can D n 150) : e < n := by
  rw [pc_can_eq] at h
  obtain ⟨d, h1, h2⟩ := List.mem_flatMap.mp h
  rw [List.mem_range'_1] at h1
  exact (pc_mem h2 (by omega)).1
