/-! RULES: the text and its numbers -/
/-- byte j of the tape is a digit, ahead of n -/
def pr_d (m : zs_T) (n j : Nat) : Prop := j < n ∧ 48 ≤ (zs_a m 0 j).toInt ∧ (zs_a m 0 j).toInt ≤ 57
/-- what a read of the tape needs -/
def pr_T (x m : zs_T) : Prop := ∀ j, j < 40 → zs_a x 0 j = zs_a m 0 j &&& 255 ∧ (zs_a m 0 j).toInt8.toInt32 = zs_a m 0 j
theorem pr_small : ∀ i : Fin 256, ∀ k : Fin 128, ((Int8.ofNat i.val).toInt32 &&& 255 = nI k.val ↔ (Int8.ofNat i.val).toInt32 = nI k.val) := by decide +kernel
theorem pr_eq {b : Int32} (hb : b.toInt8.toInt32 = b) {k : Nat} (hk : k < 128) : b &&& 255 = nI k ↔ b = nI k := by
  have h := pr_small ⟨b.toInt8.toBitVec.toNat, b.toInt8.toBitVec.isLt⟩ ⟨k, hk⟩
  have e : Int8.ofNat b.toInt8.toBitVec.toNat = b.toInt8 := by
    apply Int8.toBitVec_inj.mp
    rw [Int8.toBitVec_ofNat']
    simp
  simp only [e, hb] at h
  exact h
theorem pr_rng : ∀ i : Fin 256, (48 ≤ ((Int8.ofNat i.val).toInt32 &&& 255) ∧ ((Int8.ofNat i.val).toInt32 &&& 255) ≤ 57) ↔ (48 ≤ (Int8.ofNat i.val).toInt32.toInt ∧ (Int8.ofNat i.val).toInt32.toInt ≤ 57) := by decide +kernel
theorem pr_dig {b : Int32} (hb : b.toInt8.toInt32 = b) : (48 ≤ b &&& 255 ∧ b &&& 255 ≤ 57) ↔ (48 ≤ b.toInt ∧ b.toInt ≤ 57) := by
  have h := pr_rng ⟨b.toInt8.toBitVec.toNat, b.toInt8.toBitVec.isLt⟩
  have e : Int8.ofNat b.toInt8.toBitVec.toNat = b.toInt8 := by
    apply Int8.toBitVec_inj.mp
    rw [Int8.toBitVec_ofNat']
    simp
  simp only [e, hb] at h
  exact h
theorem pr_isDx (b : Int32) (hb : b.toInt8.toInt32 = b) : fX5_isDigit (b &&& 255) = some (if 48 ≤ b.toInt ∧ b.toInt ≤ 57 then 1 else 0) := by
  unfold fX5_isDigit; rw [pf_within]; simp only [zf_bp]; rw [if_pos (pf_z01 _)]
  simp only [pr_dig hb]
theorem pr_isDm {m : zs_T} {n j : Nat} (hn : n ≤ 40) (hj : j ≤ 1000) : fM9_isDigit m (nI j) (nI n) = some (if j < n ∧ 48 ≤ (zs_a m 0 j).toInt ∧ (zs_a m 0 j).toInt ≤ 57 then 1 else 0) := by
  unfold fM9_isDigit
  by_cases p : j < n
  · have hz : zf_in (nI j) 40 = true := pz_in (by omega) (by decide)
    rw [if_neg (nI_ge p (by omega)), if_pos hz, if_pos hz, pz_cl (by omega)]
    simp only [pz_lt, Int32.reduceToInt]
    by_cases p1 : (zs_a m 0 j).toInt < 48
    · rw [if_pos p1, if_neg (by omega)]
    · by_cases p2 : 57 < (zs_a m 0 j).toInt
      · rw [if_neg p1, if_pos p2, if_neg (by omega)]
      · rw [if_neg p1, if_neg p2, if_pos (by omega)]
  · rw [if_pos (nI_le (by omega) (by omega)), if_neg (fun h => p h.1)]
/-- how many digits, at most c, from p on -/
def pr_len (m : zs_T) (n : Nat) : Nat → Nat → Nat
  | 0, _ => 0
  | c + 1, p => if p < n ∧ 48 ≤ (zs_a m 0 p).toInt ∧ (zs_a m 0 p).toInt ≤ 57 then pr_len m n c (p + 1) + 1 else 0
theorem pr_len_le (m : zs_T) (n : Nat) : ∀ c p, pr_len m n c p ≤ c
  | 0, _ => Nat.le_refl _
  | c + 1, p => by
    unfold pr_len
    split
    · have := pr_len_le m n c (p + 1); omega
    · omega
theorem pr_len_d (m : zs_T) (n : Nat) : ∀ c p j, j < pr_len m n c p → p + j < n ∧ 48 ≤ (zs_a m 0 (p + j)).toInt ∧ (zs_a m 0 (p + j)).toInt ≤ 57
  | 0, _, _, h => absurd h (Nat.not_lt_zero _)
  | c + 1, p, j, h => by
    unfold pr_len at h
    split at h
    · rename_i q
      match j with
      | 0 => exact q
      | j + 1 =>
        have := pr_len_d m n c (p + 1) j (by omega)
        rw [show p + (j + 1) = p + 1 + j by omega]
        exact this
    · omega
theorem pr_len_e (m : zs_T) (n : Nat) : ∀ c p, pr_len m n c p < c → ¬ (p + pr_len m n c p < n ∧ 48 ≤ (zs_a m 0 (p + pr_len m n c p)).toInt ∧ (zs_a m 0 (p + pr_len m n c p)).toInt ≤ 57)
  | 0, _, h => absurd h (Nat.not_lt_zero _)
  | c + 1, p, h => by
    unfold pr_len at h ⊢
    split at h
    · rename_i q
      rw [if_pos q]
      have := pr_len_e m n c (p + 1) (by omega)
      rw [show p + (pr_len m n c (p + 1) + 1) = p + 1 + pr_len m n c (p + 1) by omega]
      exact this
    · rename_i q
      rw [if_neg q]
      exact q
/-- the number told by j digits from p on -/
def pr_val (m : zs_T) (p : Nat) : Nat → Nat
  | 0 => 0
  | j + 1 => 10 * pr_val m p j + ((zs_a m 0 (p + j)).toInt.toNat - 48)
theorem pr_val_le {m : zs_T} {n p t : Nat} (h : ∀ j, j < t → p + j < n ∧ 48 ≤ (zs_a m 0 (p + j)).toInt ∧ (zs_a m 0 (p + j)).toInt ≤ 57) : ∀ j, j ≤ t → pr_val m p j < 10 ^ j
  | 0, _ => by simp [pr_val]
  | j + 1, hj => by
    have h1 := pr_val_le h j (by omega)
    have h2 := h j (by omega)
    rw [pr_val, Nat.pow_succ]
    omega
theorem pr_val_s {m : zs_T} {n p t j : Nat} (h : ∀ j, j < t → p + j < n ∧ 48 ≤ (zs_a m 0 (p + j)).toInt ∧ (zs_a m 0 (p + j)).toInt ≤ 57) (hj : j < t) (ht : t ≤ 4) {b : Int32} (hb : b = zs_a m 0 (p + j)) : 10 * nI (pr_val m p j) + b - 48 = nI (pr_val m p (j + 1)) := by
  have h1 := pr_val_le h j (by omega)
  have h2 := h j hj
  have h3 : 10 ^ j ≤ 10 ^ 4 := Nat.pow_le_pow_right (by decide) (by omega)
  obtain ⟨q, hq, e⟩ := pz_of (x := zs_a m 0 (p + j)) (by omega)
  rw [pr_val, hb]
  rw [e] at h2 ⊢
  rw [pz_nI hq] at h2 ⊢
  rw [show (10 : Int32) = nI 10 from rfl, pk_mul, nI_add, show (48 : Int32) = nI 48 from rfl, pk_sub (by omega)]
  congr 1
  omega
theorem pr_dE {N n p : Nat} {x m : zs_T} (hN : 50 ≤ N) (hT : pr_T x m) (hn : n ≤ 40) (hp : p ≤ 40) : fX5_digitsEnd N x (nI n) (nI p) = some (nI (p + pr_len m n 4 p)) := by
  have hb : zr_imin (nI n) (nI p + 4) = nI (min n (p + 4)) := by
    unfold zr_imin
    rw [show nI p + 4 = nI (p + 4) from nI_add p 4]
    by_cases h : p + 4 < n
    · rw [if_pos (nI_lt h (by omega)), Nat.min_eq_right (by omega)]
    · rw [if_neg (nI_nlt (by omega) (by omega)), Nat.min_eq_left (by omega)]
  have key : ∀ c f p', c < f → p' + c = p + 4 → p' ≤ 44 → zf_loop (fun ag v => fX5_digitsEnd_b11 N x (nI (min n (p + 4))) (fun v4 => ag v4) v) f (nI p') = some (nI (p' + pr_len m n c p')) := by
    intro c
    induction c with
    | zero =>
      intro f p' hf hc hp'
      obtain ⟨g, rfl⟩ : ∃ g, f = g + 1 := ⟨f - 1, by omega⟩
      rw [zf_loop_s]
      unfold fX5_digitsEnd_b11
      rw [if_pos (nI_le (by omega) (by omega))]
      rfl
    | succ c ih =>
      intro f p' hf hc hp'
      obtain ⟨g, rfl⟩ : ∃ g, f = g + 1 := ⟨f - 1, by omega⟩
      rw [zf_loop_s]
      show fX5_digitsEnd_b11 N x _ (fun v4 => zf_loop _ g v4) (nI p') = _
      unfold fX5_digitsEnd_b11
      by_cases q : p' < n
      · have hz : zf_in (nI p') 40 = true := pz_in (by omega) (by decide)
        rw [if_neg (nI_ge (by omega) (by omega)), if_pos hz, pz_cl (by omega), (hT p' (by omega)).1, pr_isDx _ (hT p' (by omega)).2, pf_b01]
        by_cases r : 48 ≤ (zs_a m 0 p').toInt ∧ (zs_a m 0 p').toInt ≤ 57
        · rw [if_pos r, pz_succ]
          have h2 := ih g (p' + 1) (by omega) (by omega) (by omega)
          unfold pr_len
          rw [if_pos ⟨q, r⟩, show p' + (pr_len m n c (p' + 1) + 1) = p' + 1 + pr_len m n c (p' + 1) by omega]
          exact h2
        · rw [if_neg r]
          unfold pr_len
          rw [if_neg (fun h => r h.2)]
          rfl
      · rw [if_pos (nI_le (by omega) (by omega))]
        unfold pr_len
        rw [if_neg (fun h => q h.1)]
        rfl
  unfold fX5_digitsEnd
  rw [hb]
  exact key 4 N p (by omega) rfl (by omega)
theorem pr_nA {N n p t : Nat} {x m : zs_T} (hN : 50 ≤ N) (hT : pr_T x m) (hn : n ≤ 40) (ht : t ≤ 4) (h : ∀ j, j < t → p + j < n ∧ 48 ≤ (zs_a m 0 (p + j)).toInt ∧ (zs_a m 0 (p + j)).toInt ≤ 57) (hp : p ≤ 40) : fX5_numberAt N x (nI p) (nI (p + t)) = some (nI (pr_val m p t)) := by
  have key : ∀ r f j, r < f → j + r = t → zf_loop (fun ag s => fX5_numberAt_b5 N x (nI (p + t)) (fun v3 v4 => ag (v3, v4)) s.1 s.2) f (nI (pr_val m p j), nI (p + j)) = some (nI (pr_val m p t)) := by
    intro r
    induction r with
    | zero =>
      intro f j hf hj
      obtain ⟨g, rfl⟩ : ∃ g, f = g + 1 := ⟨f - 1, by omega⟩
      rw [zf_loop_s]
      show fX5_numberAt_b5 N x _ _ (nI (pr_val m p j)) (nI (p + j)) = _
      unfold fX5_numberAt_b5
      rw [if_pos (nI_le (by omega) (by omega)), show j = t by omega]
    | succ r ih =>
      intro f j hf hj
      obtain ⟨g, rfl⟩ : ∃ g, f = g + 1 := ⟨f - 1, by omega⟩
      rw [zf_loop_s]
      show fX5_numberAt_b5 N x _ (fun v3 v4 => zf_loop _ g (v3, v4)) (nI (pr_val m p j)) (nI (p + j)) = _
      unfold fX5_numberAt_b5
      have h1 := h j (by omega)
      have hz : zf_in (nI (p + j)) 40 = true := pz_in (by omega) (by decide)
      rw [if_neg (nI_ge (by omega) (by omega)), if_pos hz, pz_cl (by omega)]
      have hb : zs_a x 0 (p + j) = zs_a m 0 (p + j) := by
        rw [(hT (p + j) (by omega)).1]
        obtain ⟨q, hq, e⟩ := pz_of (x := zs_a m 0 (p + j)) (by omega)
        have h3 := (hT (p + j) (by omega)).2
        rw [e] at h1 h3 ⊢
        rw [pz_nI hq] at h1
        exact (pr_eq h3 (by omega)).mpr rfl
      rw [pr_val_s h (by omega) ht hb, pz_succ]
      exact ih g (j + 1) (by omega) (by omega)
  unfold fX5_numberAt
  exact key t N 0 (by omega) (by omega)
