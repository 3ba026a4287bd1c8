/-! ways: their order, which are laid, what they cost -/
def wx : List Nat → List Nat → Bool
  | a :: p, b :: q => decide (a < b) || (decide (a = b) && wx p q)
  | _, _ => false
theorem wx_c (a b : Nat) (p q : List Nat) : wx (a :: p) (b :: q) = true ↔ a < b ∨ (a = b ∧ wx p q = true) := by
  simp [wx]
theorem wx_tr : ∀ (p q r : List Nat), wx p q = true → wx q r = true → wx p r = true
  | [], _, _, h, _ => by simp [wx] at h
  | _ :: _, [], _, h, _ => by simp [wx] at h
  | _ :: _, _ :: _, [], _, h => by simp [wx] at h
  | a :: p, b :: q, c :: r, h1, h2 => by
    rw [wx_c] at h1 h2 ⊢
    rcases h1 with z1 | ⟨z1, y1⟩
    · rcases h2 with z2 | ⟨z2, y2⟩
      · exact Or.inl (by omega)
      · exact Or.inl (by omega)
    · rcases h2 with z2 | ⟨z2, y2⟩
      · exact Or.inl (by omega)
      · exact Or.inr ⟨by omega, wx_tr p q r y1 y2⟩
theorem wx_ir : ∀ (p : List Nat), ¬ wx p p = true
  | [], h => by simp [wx] at h
  | a :: p, h => by
    rw [wx_c] at h
    rcases h with z | ⟨-, y⟩
    · omega
    · exact wx_ir p y
theorem wx_tot : ∀ (p q : List Nat), p.length = q.length → p ≠ q → wx p q = true ∨ wx q p = true
  | [], [], _, h => absurd rfl h
  | [], _ :: _, h, _ => by simp at h
  | _ :: _, [], h, _ => by simp at h
  | a :: p, b :: q, h, hne => by
    rw [wx_c, wx_c]
    rcases Nat.lt_trichotomy a b with z | z | z
    · exact Or.inl (Or.inl z)
    · have : p ≠ q := fun e => hne (by rw [z, e])
      rcases wx_tot p q (by simpa using h) this with y | y
      · exact Or.inl (Or.inr ⟨z, y⟩)
      · exact Or.inr (Or.inr ⟨z.symm, y⟩)
    · exact Or.inr (Or.inl z)
theorem wx_app : ∀ (l p q : List Nat), wx (l ++ p) (l ++ q) = wx p q
  | [], _, _ => rfl
  | a :: l, p, q => by
    show wx (a :: (l ++ p)) (a :: (l ++ q)) = _
    rw [← wx_app l p q]
    simp [wx]
/-- a is better than b -/
def wb (hu g : List Nat → Nat) (a b : List Nat) : Prop := hu a < hu b ∨ (hu a = hu b ∧ (g b < g a ∨ (g a = g b ∧ wx a b = true)))
theorem wb_tr {hu g : List Nat → Nat} {a b c : List Nat} (h1 : wb hu g a b) (h2 : wb hu g b c) : wb hu g a c := by
  unfold wb at h1 h2 ⊢
  rcases h1 with z1 | ⟨z1, y1⟩
  · rcases h2 with z2 | ⟨z2, y2⟩ <;> exact Or.inl (by omega)
  · rcases h2 with z2 | ⟨z2, y2⟩
    · exact Or.inl (by omega)
    · refine Or.inr ⟨by omega, ?_⟩
      rcases y1 with x1 | ⟨x1, w1⟩
      · rcases y2 with x2 | ⟨x2, w2⟩ <;> exact Or.inl (by omega)
      · rcases y2 with x2 | ⟨x2, w2⟩
        · exact Or.inl (by omega)
        · exact Or.inr ⟨by omega, wx_tr a b c w1 w2⟩
theorem wb_ir {hu g : List Nat → Nat} {a : List Nat} (h : wb hu g a a) : False := by
  unfold wb at h
  rcases h with z | ⟨-, z | ⟨-, z⟩⟩
  · omega
  · omega
  · exact wx_ir a z
theorem wb_tot {hu g : List Nat → Nat} {a b : List Nat} (hl : a.length = b.length) (h1 : ¬ wb hu g a b) (h2 : ¬ wb hu g b a) : a = b := by
  apply Classical.byContradiction
  intro hne
  unfold wb at h1 h2
  rcases Nat.lt_trichotomy (hu a) (hu b) with z | z | z
  · exact h1 (Or.inl z)
  · rcases Nat.lt_trichotomy (g a) (g b) with y | y | y
    · exact h2 (Or.inr ⟨z.symm, Or.inl y⟩)
    · rcases wx_tot a b hl hne with w | w
      · exact h1 (Or.inr ⟨z, Or.inr ⟨y, w⟩⟩)
      · exact h2 (Or.inr ⟨z.symm, Or.inr ⟨y.symm, w⟩⟩)
    · exact h1 (Or.inr ⟨z, Or.inl y⟩)
  · exact h2 (Or.inl z)
/-- q isn't better than what b holds -/
def wn (hu g : List Nat → Nat) (q : List Nat) (b : Option (List Nat)) : Prop := ∃ p, b = some p ∧ ¬ wb hu g q p
/-- a way from f -/
def wl (H : Nat) : Int → List Nat → Prop
  | _, [] => True
  | f, h :: p => (h < H ∧ f - 1 ≤ (h : Int) ∧ (h : Int) ≤ f + 1) ∧ wl H (h : Int) p
theorem wl_ex {H : Nat} (hH : 0 < H) : ∀ (n : Nat) (f : Int), -1 ≤ f → f < H → ∃ p, wl H f p ∧ p.length = n
  | 0, _, _, _ => ⟨[], trivial, rfl⟩
  | n + 1, f, h1, h2 => by
    obtain ⟨p, a, b⟩ := wl_ex hH n (f.toNat : Int) (by omega) (by omega)
    exact ⟨f.toNat :: p, ⟨⟨by omega, by omega, by omega⟩, a⟩, by simp [b]⟩
/-- the way that a code spells -/
def wd (H : Nat) : Nat → Int → Nat → Option (List Nat)
  | 0, _, _ => some []
  | n + 1, f, c => if f = -1 then (if c % 3 = 1 ∧ 0 < H then (wd H n 0 (c / 3)).map (fun p => 0 :: p) else none) else if 0 ≤ f + (c % 3 : Nat) - 1 ∧ f + (c % 3 : Nat) - 1 < H then (wd H n (f + (c % 3 : Nat) - 1) (c / 3)).map (fun p => (f + (c % 3 : Nat) - 1).toNat :: p) else none
theorem wd_l {H : Nat} : ∀ (n : Nat) (f : Int) (c : Nat) (p : List Nat), -1 ≤ f → wd H n f c = some p → wl H f p ∧ p.length = n
  | 0, f, c, p, _, h => by
    have : p = [] := (Option.some.inj h).symm
    rw [this]
    exact ⟨trivial, rfl⟩
  | n + 1, f, c, p, hf, h => by
    have hc : c % 3 < 3 := Nat.mod_lt _ (by decide)
    unfold wd at h
    by_cases q : f = -1
    · rw [if_pos q] at h
      by_cases q2 : c % 3 = 1 ∧ 0 < H
      · rw [if_pos q2] at h
        obtain ⟨p', e1, e2⟩ := Option.map_eq_some_iff.mp h
        obtain ⟨a, b⟩ := wd_l n 0 (c / 3) p' (by omega) e1
        rw [← e2]
        exact ⟨⟨⟨q2.2, by omega, by omega⟩, a⟩, by simp [b]⟩
      · rw [if_neg q2] at h; cases h
    · rw [if_neg q] at h
      by_cases q2 : 0 ≤ f + (c % 3 : Nat) - 1 ∧ f + (c % 3 : Nat) - 1 < H
      · rw [if_pos q2] at h
        obtain ⟨p', e1, e2⟩ := Option.map_eq_some_iff.mp h
        obtain ⟨a, b⟩ := wd_l n _ (c / 3) p' (by omega) e1
        have e3 : ((f + (c % 3 : Nat) - 1).toNat : Int) = f + (c % 3 : Nat) - 1 := Int.toNat_of_nonneg q2.1
        rw [← e2]
        refine ⟨⟨⟨by omega, by omega, by omega⟩, ?_⟩, by simp [b]⟩
        rw [e3]
        exact a
      · rw [if_neg q2] at h; cases h
theorem wd_all {H : Nat} : ∀ (n : Nat) (f : Int) (p : List Nat), -1 ≤ f → wl H f p → p.length = n → ∃ c, c < 3 ^ n ∧ wd H n f c = some p
  | 0, f, p, _, _, hl => by
    have : p = [] := List.length_eq_zero_iff.mp hl
    rw [this]
    exact ⟨0, by decide, rfl⟩
  | n + 1, f, [], _, _, hl => by simp at hl
  | n + 1, f, h :: p, hf, hw, hl => by
    obtain ⟨⟨w1, w2, w3⟩, w4⟩ := hw
    obtain ⟨c, c1, c2⟩ := wd_all n (h : Int) p (by omega) w4 (by simpa using hl)
    have hpow : 3 ^ (n + 1) = 3 * 3 ^ n := by rw [Nat.pow_succ, Nat.mul_comm]
    by_cases q : f = -1
    · have h0 : h = 0 := by omega
      subst h0
      refine ⟨1 + 3 * c, by omega, ?_⟩
      unfold wd
      rw [if_pos q, if_pos ⟨by omega, w1⟩, show (1 + 3 * c) / 3 = c by omega]
      rw [show ((0 : Nat) : Int) = 0 from rfl] at c2
      rw [c2]
      rfl
    · obtain ⟨t, ht1, ht2⟩ : ∃ t : Nat, t < 3 ∧ (h : Int) = f + t - 1 := ⟨((h : Int) - f + 1).toNat, by omega, by omega⟩
      refine ⟨t + 3 * c, by omega, ?_⟩
      unfold wd
      rw [if_neg q, show (t + 3 * c) % 3 = t by omega, show (t + 3 * c) / 3 = c by omega, if_pos ⟨by omega, by omega⟩, ← ht2, c2]
      rfl
/-! what a way costs -/
def wR (Mo : Nat → Nat) (C : Nat → Int32) (w : Int32) (W : Nat) (R : Nat → Nat) (h : Nat) : Nat → Nat := fun j => if j = h then gR R Mo C w j - min W (gR R Mo C w j) else gR R Mo C w j
def wL (Mo : Nat → Nat) (C : Nat → Int32) (w : Int32) (W : Nat) (R : Nat → Nat) (h : Nat) : Nat := W - min W (gR R Mo C w h)
def wE (Mo : Nat → Nat) (C : Nat → Int32) (w : Int32) (W : Nat) : (Nat → Nat) → List Nat → Nat
  | _, [] => 0
  | R, h :: p => wL Mo C w W R h + wE Mo C w W (wR Mo C w W R h) p
def wF (Mo : Nat → Nat) (C : Nat → Int32) (w : Int32) (W : Nat) : (Nat → Nat) → List Nat → (Nat → Nat)
  | R, [] => R
  | R, h :: p => wF Mo C w W (wR Mo C w W R h) p
theorem wF_app (Mo : Nat → Nat) (C : Nat → Int32) (w : Int32) (W : Nat) : ∀ (p q : List Nat) (R : Nat → Nat), wF Mo C w W R (p ++ q) = wF Mo C w W (wF Mo C w W R p) q
  | [], _, _ => rfl
  | h :: p, q, R => wF_app Mo C w W p q (wR Mo C w W R h)
theorem wE_app (Mo : Nat → Nat) (C : Nat → Int32) (w : Int32) (W : Nat) : ∀ (p q : List Nat) (R : Nat → Nat), wE Mo C w W R (p ++ q) = wE Mo C w W R p + wE Mo C w W (wF Mo C w W R p) q
  | [], q, R => by show wE Mo C w W R q = 0 + wE Mo C w W R q; omega
  | h :: p, q, R => by
    show wL Mo C w W R h + wE Mo C w W (wR Mo C w W R h) (p ++ q) = wL Mo C w W R h + wE Mo C w W (wR Mo C w W R h) p + wE Mo C w W (wF Mo C w W (wR Mo C w W R h) p) q
    rw [wE_app Mo C w W p q]
    omega
theorem wE_le (Mo : Nat → Nat) (C : Nat → Int32) (w : Int32) (W : Nat) : ∀ (p : List Nat) (R : Nat → Nat), wE Mo C w W R p ≤ W * p.length
  | [], R => by show 0 ≤ _; omega
  | h :: p, R => by
    have := wE_le Mo C w W p (wR Mo C w W R h)
    have h2 : wL Mo C w W R h ≤ W := Nat.sub_le _ _
    show wL Mo C w W R h + wE Mo C w W (wR Mo C w W R h) p ≤ W * (p.length + 1)
    rw [Nat.mul_add, Nat.mul_one]
    omega
theorem gs_w {H : Nat} {R Mo : Nat → Nat} {C : Nat → Int32} (h : gs H R Mo C) (w : Int32) (W a : Nat) : gs H (wR Mo C w W R a) Mo C := by
  have h1 := gs_R h w
  refine ⟨h.1, fun j hj => ?_, h.2.2⟩
  have := h1.2.1 j hj
  unfold wR
  split <;> omega
theorem gs_F {H : Nat} {Mo : Nat → Nat} {C : Nat → Int32} (w : Int32) (W : Nat) : ∀ (p : List Nat) {R : Nat → Nat}, gs H R Mo C → gs H (wF Mo C w W R p) Mo C
  | [], _, h => h
  | a :: p, _, h => gs_F w W p (gs_w h w W a)
/-- the sum over the heights -/
def wG (Mo : Nat → Nat) (C : Nat → Int32) (w : Int32) (W H : Nat) (R : Nat → Nat) (p : List Nat) : Nat := qh (wF Mo C w W R p) H
theorem qh_b {f : Nat → Nat} {b : Nat} : ∀ {n : Nat}, (∀ j, j < n → f j ≤ b) → qh f n ≤ b * n
  | 0, _ => by show 0 ≤ _; omega
  | n + 1, h => by
    have := qh_b (n := n) (fun j hj => h j (by omega))
    have h2 := h n (by omega)
    show qh f n + f n ≤ b * (n + 1)
    rw [Nat.mul_add, Nat.mul_one]
    omega
/-- one that nothing is better than is the only such one -/
theorem wb_one {hu g : List Nat → Nat} {P : List Nat → Prop} {a b : List Nat} {n : Nat} (ha : P a) (hb : P b) (la : a.length = n) (lb : b.length = n) (h1 : ∀ q, P q → ¬ wb hu g q a) (h2 : ∀ q, P q → ¬ wb hu g q b) : a = b := wb_tot (by omega) (h2 a ha) (h1 b hb)
