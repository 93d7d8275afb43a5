/-! ===== the law of every script ===== -/
theorem fj_law_all (L : Nat) (xs : Nat → Int32) (hL : L ≤ 3072) : fj_lawOk L xs := by
  have go : fj_H (some (L, xs)) 165 0 [.float 0, .null, .null, .null] [] (fun _ _ => 0) (fun _ _ => 0) 0 0 (fun v _ _ c z => v = some (.int 1) ∧ c = 53 ∧ z = 7835) := by
    simp only [fs165_0, fs165_3, fs165_3i, fs165_4, fs165_7, fs165_8, fs165_11, fs165_11i, fs165_12, fs165_15, fs165_16, fs165_17, m57, m96, fj_P0, okl_A, okA_n, okA_c, okv_r, okv_i, okv_n, okv_f, fj_shs, Nat.reduceLT, Nat.reduceAdd, Nat.reduceEqDiff, true_and, and_true, and_self, true_or, or_true, eq_self, Option.toList_none, List.nil_append, List.cons_append]
    exact law_loop hL 512 0 true fj_M0 (by omega) (by omega) fj_I0
  obtain ⟨n, ⟨v, M', P', c, z⟩, hr, e1, e2, e3⟩ := go
  have e1' : v = some (.int 1) := e1
  have e2' : c = 53 := e2
  have e3' : z = 7835 := e3
  subst e1'
  subst e2'
  subst e3'
  exact ⟨n, M', P', hr⟩
