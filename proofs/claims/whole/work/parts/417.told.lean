theorem rb_E_ag {S n : Nat} {x m x' m' : zs_T} (h : rb_E S n x m) (hx : px_ag x x') (hm : pa_ag m m') : rb_E S n x' m' := by
  obtain ⟨xi, xl, xa, xb⟩ := hx
  obtain ⟨mi, ml, ma, mb⟩ := hm
  refine rb_E_of h ?_ ?_
  · exact ⟨xi _ (by decide), xi _ (by decide), xi _ (by decide), xa _ (by decide), xa _ (by decide), xa _ (by decide), xa _ (by decide), xa _ (by decide), xa _ (by decide), xa _ (by decide), xa _ (by decide)⟩
  · exact ⟨mi _ (by decide), mi _ (by decide), mi _ (by decide), ma _ (by decide), ma _ (by decide), ma _ (by decide), ma _ (by decide), ma _ (by decide), ma _ (by decide), ma _ (by decide)⟩
/-- the state of sheep s behind day d, all entries known -/
def pn_s (m : zs_T) (n d s : Nat) : pz_S := pn_S (zs_a m 11) (zs_a m 12) (zs_a m 13) (zs_a m 14) n s (rb_st m s) d
theorem pn_s_ag {m m' : zs_T} (h : pa_ag m m') (n d s : Nat) : pn_s m' n d s = pn_s m n d s := by
  unfold pn_s rb_st
  rw [h.2.2.1 11 (by decide), h.2.2.1 12 (by decide), h.2.2.1 13 (by decide), h.2.2.1 14 (by decide), h.2.2.1 10 (by decide), h.2.2.1 8 (by decide)]
/-- how many of the first sheep are alive and of owner o -/
def pn_liv (m : zs_T) (n d : Nat) (o : Int32) : Nat → Nat
  | 0 => 0
  | s + 1 => pn_liv m n d o s + (if (pn_s m n d s).2.1 = 0 ∧ (pn_s m n d s).2.2 = o then 1 else 0)
theorem pn_liv_le (m : zs_T) (n d : Nat) (o : Int32) : ∀ s, pn_liv m n d o s ≤ s
  | 0 => Nat.le_refl _
  | s + 1 => by
    have := pn_liv_le m n d o s
    unfold pn_liv
    split <;> omega
