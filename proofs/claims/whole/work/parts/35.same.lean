/-! ===== both read the same ===== -/
/-- the same code, or beyond the end -/
def pSm (g g' : Nat → Int32) : Prop := ∀ p, g p = g' p ∨ (g p = 0 ∧ g' p = -9)
theorem pKind_0 : pKind 0 = none := by decide
theorem pKind_9 : pKind (-9) = none := by decide
theorem pRd_sm {g g' : Nat → Int32} (h : pSm g g') (c : Nat) (s : fj_Tx) : pRd g c s = pRd g' c s := by
  unfold pRd
  rcases h (pp s) with e | ⟨e, e'⟩
  · rw [e]
    rcases h (pp s + 1) with d | ⟨d, d'⟩
    · rw [d]
    · rw [d, d']
      cases pKind (g' (pp s)) with
      | none => rfl
      | some k =>
        simp only
        rw [if_pos (show (0 : Int32) - 48 < 0 by decide), if_pos (show (-9 : Int32) - 48 < 0 by decide)]
  · rw [e, e', if_neg (show ¬ (0 : Int32) = 46 by decide), if_neg (show ¬ (0 : Int32) = 111 by decide), if_neg (show ¬ (-9 : Int32) = 46 by decide), if_neg (show ¬ (-9 : Int32) = 111 by decide), pKind_0, pKind_9]
theorem pCell_sm {g g' : Nat → Int32} (h : pSm g g') (w c : Nat) (s : fj_Tx) : pCell g w c s = pCell g' w c s := by
  unfold pCell
  rw [pRd_sm h, pRd_sm h]
  rcases h (pp s) with e | ⟨e, e'⟩
  · rw [e]
  · rw [e, e', if_neg (show ¬ (0 : Int32) = 59 by decide), if_neg (show ¬ (-9 : Int32) = 59 by decide)]
theorem pGo_sm {g g' : Nat → Int32} (h : pSm g g') (w : Nat) : ∀ (k c : Nat) (s : fj_Tx), pGo g w k c s = pGo g' w k c s
  | 0, c, s => rfl
  | k + 1, c, s => by
    show (match pCell g w c s with | .inl f => _ | .inr s' => _) = match pCell g' w c s with | .inl f => _ | .inr s' => _
    rw [pCell_sm h]
    cases pCell g' w c s with
    | inl f => rfl
    | inr s' => exact pGo_sm h w k (c + 1) s'
theorem pAll_sm {g g' : Nat → Int32} (h : pSm g g') (n : Nat) : pAll g n = pAll g' n := by
  unfold pAll
  rcases h 0 with e | ⟨e, e'⟩
  · rw [e]
    by_cases hy : g' 0 = 121
    · rw [if_pos hy, if_pos hy]
      rcases h 1 with d | ⟨d, d'⟩
      · rw [d]
        by_cases h1 : g' 1 - 48 < 1
        · rw [if_pos h1, if_pos h1]
        · rw [if_neg h1, if_neg h1]
          by_cases h4 : g' 1 - 48 ≤ 4
          · rw [if_pos h4, if_pos h4]
            rcases h 2 with b | ⟨b, b'⟩
            · rw [b, pGo_sm h]
            · rw [b, b', if_pos (show (0 : Int32) - 48 < 2 by decide), if_pos (show (-9 : Int32) - 48 < 2 by decide)]
          · rw [if_neg h4, if_neg h4]
      · rw [d, d', if_pos (show (0 : Int32) - 48 < 1 by decide), if_pos (show (-9 : Int32) - 48 < 1 by decide)]
    · rw [if_neg hy, if_neg hy]
  · rw [e, e', if_neg (show ¬ (0 : Int32) = 121 by decide), if_neg (show ¬ (-9 : Int32) = 121 by decide)]
/-- no place behind the end is reached -/
theorem pRd_n {g : Nat → Int32} {n c : Nat} {s s' : fj_Tx} (hg : ∀ p, n ≤ p → g p = -9) (h : pRd g c s = .inr s') : pp s' ≤ n := by
  unfold pRd at h
  have lt : ∀ p, ¬ g p = -9 → p < n := fun p hp => Nat.lt_of_not_le (fun z => hp (hg p z))
  by_cases h1 : g (pp s) = 46
  · rw [if_pos h1] at h
    cases h
    exact lt (pp s) (by rw [h1]; decide)
  · rw [if_neg h1] at h
    by_cases h2 : g (pp s) = 111
    · rw [if_pos h2] at h
      by_cases h3 : pq s = 2
      · rw [if_pos h3] at h; cases h
      · rw [if_neg h3] at h
        cases h
        exact lt (pp s) (by rw [h2]; decide)
    · rw [if_neg h2] at h
      cases hk : pKind (g (pp s)) with
      | none => rw [hk] at h; cases h
      | some k =>
        rw [hk] at h
        simp only at h
        by_cases h4 : pn s = 6
        · rw [if_pos h4] at h; cases h
        · rw [if_neg h4] at h
          by_cases h5 : g (pp s + 1) - 48 < 0
          · rw [if_pos h5] at h; cases h
          · rw [if_neg h5] at h
            by_cases h6 : g (pp s + 1) - 48 ≤ 5
            · rw [if_pos h6] at h
              cases h
              exact lt (pp s + 1) (fun z => h5 (by rw [z]; decide))
            · rw [if_neg h6] at h; cases h
