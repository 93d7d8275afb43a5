/-! ===== the class reads a text, to its end ===== -/
theorem q_rng {v : Int32} {lo hi : Nat} (hh : hi < 1000) (hl : lo ≤ hi) (h0 : ¬ v < nI lo) (h5 : v ≤ nI hi) : v = nI v.toNatClampNeg ∧ lo ≤ v.toNatClampNeg ∧ v.toNatClampNeg ≤ hi := by
  rw [Int32.lt_iff_toInt_lt, q_toInt (by omega)] at h0
  rw [Int32.le_iff_toInt_le, q_toInt (by omega)] at h5
  have e : v.toNatClampNeg = v.toInt.toNat := rfl
  refine ⟨?_, by omega, by omega⟩
  apply Int32.toInt_inj.mp
  rw [q_toInt (by omega), e]
  omega
/-- as pGo, but the first cell's row is begun -/
def pGoR (g : Nat → Int32) (w : Nat) : Nat → Nat → fj_Tx → Sum Nat fj_Tx
  | 0, _, s => .inr s
  | k + 1, c, s => match pRd g c s with
    | .inl f => .inl f
    | .inr s' => pGo g w k (c + 1) s'
theorem pGo_in {g : Nat → Int32} {w k c : Nat} {s : fj_Tx} (h : ¬ c % w = 0) : pGo g w (k + 1) c s = pGoR g w (k + 1) c s := by
  show (match pCell g w c s with | .inl f => _ | .inr s' => _) = match pRd g c s with | .inl f => _ | .inr s' => _
  unfold pCell
  rw [if_neg h]
theorem pGo_at {g : Nat → Int32} {w k c : Nat} {s : fj_Tx} (h : c % w = 0) (hg : g (pp s) = 59) : pGo g w (k + 1) c s = pGoR g w (k + 1) c (pp s + 1, s.2) := by
  show (match pCell g w c s with | .inl f => _ | .inr s' => _) = match pRd g c (pp s + 1, s.2) with | .inl f => _ | .inr s' => _
  unfold pCell
  rw [if_pos h, if_pos hg]
theorem pGo_no {g : Nat → Int32} {w k c : Nat} {s : fj_Tx} (h : c % w = 0) (hg : ¬ g (pp s) = 59) : pGo g w (k + 1) c s = .inl (pp s) := by
  show (match pCell g w c s with | .inl f => _ | .inr s' => _) = _
  unfold pCell
  rw [if_pos h, if_neg hg]
theorem fj_PC_add {o : Nat} (ho : o = 17 ∨ o = 25) {M : fj_HM} {w c : Nat} {s : fj_Tx} (h : fj_PC o M w c (c + 1) s) : fj_PC o (fj_up (fj_up (fj_up M (o + 6) c (nI (c / w))) (o + 7) c (nI (c % w))) o 0 (nI (c + 1))) w (c + 1) (c + 1) s := by
  obtain ⟨a0, a1, a2, a3, a4, a5, a6, a7, a8, a9, a10⟩ := h
  refine ⟨?_, ?_, ?_, ?_, ?_, ?_, fun k hk => ?_, fun k hk => ?_, fun m hm => ?_, fun x hx => ?_, fun j hj => ?_⟩
  · simp only [fj_up_at, true_and, eq_self, if_true]
  · simp only [fj_up_at, true_and]
    repeat (first | rw [if_neg (by omega)] | rw [if_pos (by omega)])
    exact a1
  · simp only [fj_up_at, true_and]
    repeat (first | rw [if_neg (by omega)] | rw [if_pos (by omega)])
    exact a2
  · simp only [fj_up_at, true_and]
    repeat (first | rw [if_neg (by omega)] | rw [if_pos (by omega)])
    exact a3
  · simp only [fj_up_at, true_and]
    repeat (first | rw [if_neg (by omega)] | rw [if_pos (by omega)])
    exact a4
  · simp only [fj_up_at, true_and]
    repeat (first | rw [if_neg (by omega)] | rw [if_pos (by omega)])
    exact a5
  · simp only [fj_up_at, true_and]
    repeat (first | rw [if_neg (by omega)] | rw [if_pos (by omega)])
    exact a6 k hk
  · simp only [fj_up_at, true_and]
    by_cases e : k = c
    · subst e
      repeat (first | rw [if_neg (by omega)] | rw [if_pos (by omega)])
      exact ⟨rfl, rfl⟩
    · repeat (first | rw [if_neg (by omega)] | rw [if_pos (by omega)])
      exact a7 k (by omega)
  · simp only [fj_up_at, true_and]
    repeat (first | rw [if_neg (by omega)] | rw [if_pos (by omega)])
    exact a8 m hm
  · simp only [fj_up_at, true_and]
    repeat (first | rw [if_neg (by omega)] | rw [if_pos (by omega)])
    exact a9 x hx
  · simp only [fj_up_at, true_and]
    repeat (first | rw [if_neg (by omega)] | rw [if_pos (by omega)])
    exact a10 j hj
