/-! where a text ends does not hang on the names -/
section POS
variable {R : Nat → Int32} {n : Nat} {L N N' W : Nat → Int32}
theorem pTl_pos (w : Nat) {c c' : CS} (e : c.1 = c'.1) : (pTl R n L N w c).1 = (pTl R n L N' w c').1 := by
  unfold pTl
  rw [e]
  by_cases q : w = 2
  · rw [if_pos q, if_pos q]
  · rw [if_neg q, if_neg q]
    exact pX_pos 500 3 0 false false _ (by omega)
theorem pCl_pos {c c' : CS} (e : c.1 = c'.1) : (pCl R n L N W c).1 = (pCl R n L N' W c').1 := by
  unfold pCl
  rw [e]
  exact pTl_pos _ rfl
theorem pRl_pos : ∀ (j : Nat) (c c' : CS), c.1 = c'.1 → (pRl R n L N W j c).1 = (pRl R n L N' W j c').1
  | 0, _, _, e => e
  | j + 1, c, c', e => by
    unfold pRl
    rw [e]
    by_cases q : pAt R n c'.1 59 = true
    · rw [if_pos q, if_pos q]
      exact pRl_pos j _ _ (pCl_pos rfl)
    · rw [if_neg q, if_neg q]
      exact e
theorem pRA_pos : (pRA R n L N W).1 = (pRA R n L N' W).1 := pRl_pos 9 _ _ (pCl_pos rfl)
theorem pGood_pos : pGood n (pRA R n L N W) = pGood n (pRA R n L N' W) := by
  unfold pGood
  rw [pRA_pos (N := N) (N' := N')]
end POS
