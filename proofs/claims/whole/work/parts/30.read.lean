/-! ===== the class reads a text ===== -/
theorem fj_PC_a {o : Nat} (ho : o = 17 ∨ o = 25) {M : fj_HM} {w c i : Nat} {s : fj_Tx} (h : fj_PC o M w c i s) (hi : i ≤ c) (v : Int32) : fj_PC o (fj_up M (o + 1) c v) w c i s := by
  obtain ⟨a0, a1, a2, a3, a4, a5, a6, a7, a8, a9, a10⟩ := h
  have e : ∀ k, k ≠ 1 → fj_up M (o + 1) c v (o + k) = M (o + k) := fun k hk => by funext j; rw [fj_up_at, if_neg (by omega)]
  have e0 : fj_up M (o + 1) c v o = M o := e 0 (by decide)
  refine ⟨by rw [e0]; exact a0, by rw [e0]; exact a1, by rw [e0]; exact a2, by rw [e0]; exact a3, by rw [e0]; exact a4, by rw [e0]; exact a5, fun k hk => ?_, ?_, ?_, ?_, ?_⟩
  · rw [fj_up_at, if_neg (by omega)]; exact a6 k hk
  · rw [e 6 (by decide), e 7 (by decide)]; exact a7
  · rw [e 2 (by decide), e 3 (by decide), e 4 (by decide)]; exact a8
  · rw [e 5 (by decide)]; exact a9
  · rw [e 4 (by decide)]; exact a10
theorem fj_PC_oil {o : Nat} (ho : o = 17 ∨ o = 25) {M : fj_HM} {w c p : Nat} {s : fj_Tx} (h : fj_PC o M w c c s) (hq : pq s < 2) : fj_PC o (fj_up (fj_up (fj_up M (o + 5) (pq s) (nI c)) (o + 1) c (nI (6 + pq s))) o 2 (nI (pq s + 1))) w c (c + 1) (p, pn s, pq s + 1, fupI (pic s) c (nI (6 + pq s)), pkd s, per s, pmc s, fupN (poc s) (pq s) c) := by
  obtain ⟨a0, a1, a2, a3, a4, a5, a6, a7, a8, a9, a10⟩ := h
  refine ⟨?_, ?_, ?_, ?_, ?_, ?_, fun k hk => ?_, fun k hk => ?_, fun m hm => ?_, fun x hx => ?_, fun j hj => ?_⟩
  · simp only [fj_up_at, true_and]
    repeat (first | rw [if_neg (by omega)] | rw [if_pos (by omega)])
    exact a0
  · simp only [fj_up_at, true_and]
    repeat (first | rw [if_neg (by omega)] | rw [if_pos (by omega)])
    exact a1
  · simp only [fj_up_at, true_and]
    repeat (first | rw [if_neg (by omega)] | rw [if_pos (by omega)])
    rfl
  · simp only [fj_up_at, true_and]
    repeat (first | rw [if_neg (by omega)] | rw [if_pos (by omega)])
    exact a3
  · simp only [fj_up_at, true_and]
    repeat (first | rw [if_neg (by omega)] | rw [if_pos (by omega)])
    exact a4
  · simp only [fj_up_at, true_and]
    repeat (first | rw [if_neg (by omega)] | rw [if_pos (by omega)])
    exact a5
  · show _ = fupI (pic s) c (nI (6 + pq s)) k
    simp only [fj_up_at, fupI, true_and]
    by_cases e : k = c
    · repeat (first | rw [if_neg (by omega)] | rw [if_pos (by omega)])
    · repeat (first | rw [if_neg (by omega)] | rw [if_pos (by omega)])
      exact a6 k (by omega)
  · simp only [fj_up_at, true_and]
    repeat (first | rw [if_neg (by omega)] | rw [if_pos (by omega)])
    exact a7 k hk
  · simp only [fj_up_at, true_and]
    repeat (first | rw [if_neg (by omega)] | rw [if_pos (by omega)])
    exact a8 m hm
  · have hx' : x < pq s + 1 := hx
    show _ = nI (fupN (poc s) (pq s) c x)
    simp only [fj_up_at, fupN, true_and]
    by_cases e : x = pq s
    · repeat (first | rw [if_neg (by omega)] | rw [if_pos (by omega)])
    · repeat (first | rw [if_neg (by omega)] | rw [if_pos (by omega)])
      exact a9 x (by omega)
  · simp only [fj_up_at, true_and]
    repeat (first | rw [if_neg (by omega)] | rw [if_pos (by omega)])
    exact a10 j hj
theorem fj_PC_man {o : Nat} (ho : o = 17 ∨ o = 25) {M : fj_HM} {w c p k e : Nat} {s : fj_Tx} (h : fj_PC o M w c c s) (hn : pn s < 6) (hc : c < 24) : fj_PC o (fj_up (fj_up (fj_up (fj_up (fj_up M (o + 2) (pn s) (nI k)) (o + 3) (pn s) (nI e)) (o + 4) (pn s) (nI c)) (o + 1) c (nI (pn s))) o 1 (nI (pn s + 1))) w c (c + 1) (p, pn s + 1, pq s, fupI (pic s) c (nI (pn s)), fupN (pkd s) (pn s) k, fupN (per s) (pn s) e, fupN (pmc s) (pn s) c, poc s) := by
  obtain ⟨a0, a1, a2, a3, a4, a5, a6, a7, a8, a9, a10⟩ := h
  refine ⟨?_, ?_, ?_, ?_, ?_, ?_, fun k hk => ?_, fun k hk => ?_, fun m hm => ?_, fun x hx => ?_, fun j hj => ?_⟩
  · simp only [fj_up_at, true_and]
    repeat (first | rw [if_neg (by omega)] | rw [if_pos (by omega)])
    exact a0
  · simp only [fj_up_at, true_and]
    repeat (first | rw [if_neg (by omega)] | rw [if_pos (by omega)])
    rfl
  · simp only [fj_up_at, true_and]
    repeat (first | rw [if_neg (by omega)] | rw [if_pos (by omega)])
    exact a2
  · simp only [fj_up_at, true_and]
    repeat (first | rw [if_neg (by omega)] | rw [if_pos (by omega)])
    exact a3
  · simp only [fj_up_at, true_and]
    repeat (first | rw [if_neg (by omega)] | rw [if_pos (by omega)])
    exact a4
  · simp only [fj_up_at, true_and]
    repeat (first | rw [if_neg (by omega)] | rw [if_pos (by omega)])
    exact a5
  · show _ = fupI (pic s) c (nI (pn s)) k
    simp only [fj_up_at, fupI, true_and]
    by_cases e : k = c
    · repeat (first | rw [if_neg (by omega)] | rw [if_pos (by omega)])
    · repeat (first | rw [if_neg (by omega)] | rw [if_pos (by omega)])
      exact a6 k (by omega)
  · simp only [fj_up_at, true_and]
    repeat (first | rw [if_neg (by omega)] | rw [if_pos (by omega)])
    exact a7 k hk
  · have hm' : m < pn s + 1 := hm
    show _ = nI (fupN (pkd s) (pn s) _ m) ∧ _ = nI (fupN (per s) (pn s) _ m) ∧ _ = nI (fupN (pmc s) (pn s) c m)
    simp only [fj_up_at, fupN, true_and]
    by_cases e : m = pn s
    · repeat (first | rw [if_neg (by omega)] | rw [if_pos (by omega)])
      exact ⟨rfl, rfl, rfl⟩
    · repeat (first | rw [if_neg (by omega)] | rw [if_pos (by omega)])
      exact a8 m (by omega)
  · simp only [fj_up_at, true_and]
    repeat (first | rw [if_neg (by omega)] | rw [if_pos (by omega)])
    exact a9 x hx
  · simp only [fj_up_at, true_and]
    by_cases e : j = pn s
    · refine ⟨c, hc, ?_⟩
      repeat (first | rw [if_neg (by omega)] | rw [if_pos (by omega)])
    · repeat (first | rw [if_neg (by omega)] | rw [if_pos (by omega)])
      exact a10 j hj
theorem m47 {o : Nat} (ho : o = 17 ∨ o = 25) (t : Bool) {w c n : Nat} (hn : n ≤ 60) (hc : c < 24) {g : Nat → Int32} {M : fj_HM} {s : fj_Tx} (hpp : pp s < 1000) (hg : ∀ k, gC M n k = g k) (hP : fj_PC o M w c c s) (hO : pOk c s) {Q : fj_Po}
  (hR : ∀ M' s', (∀ o', (o' < o ∨ o + 7 < o') → M' o' = M o') → pRd g c s = .inr s' → fj_PC o M' w c (c + 1) s' → pOk (c + 1) s' → pp s' ≤ pp s + 2 → Q (some (.int (nI (pp s')))) M' (fj_PY t) 53 7835)
  (hL : ∀ M' f, (∀ o', (o' < o ∨ o + 7 < o') → M' o' = M o') → pRd g c s = .inl f → (∀ j, j < 6 → ∃ d, d < 24 ∧ M' (o + 4) j = nI d) → f ≤ pp s + 1 → Q (some (.int (-1 - nI f))) M' (fj_PY t) 53 7835) :
  fj_H none 47 0 [.ref o, .ref 16, .int (nI n), .int (nI (pp s)), .null, .null, .null] [] M (fj_PY t) 53 7835 Q := by
  have h0 := hP.1
  obtain ⟨o1, o2, o3, o4⟩ := id hO
  have o3' : ∀ m, m < pn s → pkd s m ≤ 2 ∧ per s m ≤ 5 ∧ pmc s m < c + 1 := fun m hm => by have := o3 m hm; omega
  have o4' : ∀ x, x < pq s → poc s x < c + 1 := fun x hx => by have := o4 x hx; omega
  have hP1 := fj_PC_a ho hP (Nat.le_refl c) (-9)
  have fr1 : ∀ o', (o' < o ∨ o + 7 < o') → fj_up M (o + 1) c (-9) o' = M o' := fun o' h => by funext j; rw [fj_up_at, if_neg (by omega)]
  have hg1 : ∀ k, gC (fj_up M (o + 1) c (-9)) n k = g k := fun k => by rw [← hg k]; unfold gC; rw [fr1 16 (by omega)]
  obtain ⟨b0, b1, b2, b3, b4, b5, b6, b7, b8, b9, b10⟩ := id hP1
  simp only [fs47_0, fs47_1, fs47_2, fs47_3, fs47_6, fs47_8, fs47_9, fs47_12, fs47_13, fs47_16, fs47_18, fs47_19, fs47_21, fs47_23, fj_YO ho t, fj_OB, fj_AR, fj_CI, q_zo0, q_zo1, Option.toList_some, Option.toList_none, List.cons_append, List.nil_append, true_and, and_true, true_or, if_true, if_false, q_l10, q_l01, eq_self, Int32.reduceLT, Int32.reduceLE, Int32.reduceAdd, Int32.reduceSub, fj_up_at, Nat.reduceEqDiff, false_and, and_false, and_self, reduceCtorEq, Nat.reduceAdd, m46 hn (show pp s < 100000 by omega), hg, h0, q_in (show c < 24 by omega), q_clamp (show c < 100000 by omega)]
  by_cases h46 : g (pp s) = 46
  · rw [if_pos h46]
    simp only [fs47_26, fs47_27, fs47_28, fs47_29, fj_OB, fj_AR, fj_CI, q_zo0, q_zo1, Option.toList_some, Option.toList_none, List.cons_append, List.nil_append, true_and, and_true, true_or, if_true, if_false, q_l10, q_l01, eq_self, Int32.reduceLT, Int32.reduceLE, Int32.reduceAdd, Int32.reduceSub, fj_up_at, Nat.reduceEqDiff, false_and, and_false, and_self, reduceCtorEq, Nat.reduceAdd, nI_1]
    refine hR _ (pp s + 1, pn s, pq s, fupI (pic s) c (-9), pkd s, per s, pmc s, poc s) fr1 (by unfold pRd; rw [if_pos h46]) ?_ ⟨o1, o2, o3', o4'⟩ (Nat.le_succ _)
    refine ⟨b0, b1, b2, b3, b4, b5, fun k hk => ?_, b7, b8, b9, b10⟩
    show _ = fupI (pic s) c (-9) k
    unfold fupI
    rw [fj_up_at]
    by_cases e : k = c
    · rw [if_pos ⟨rfl, e⟩, if_pos e]
    · rw [if_neg (fun z => e z.2), if_neg e]
      exact hP.2.2.2.2.2.2.1 k (by omega)
  · rw [if_neg h46]
    simp only [fs47_30, fs47_32, fs47_34, fj_OB, fj_AR, fj_CI, q_zo0, q_zo1, Option.toList_some, Option.toList_none, List.cons_append, List.nil_append, true_and, and_true, true_or, if_true, if_false, q_l10, q_l01, eq_self, Int32.reduceLT, Int32.reduceLE, Int32.reduceAdd, Int32.reduceSub, fj_up_at, Nat.reduceEqDiff, false_and, and_false, and_self, reduceCtorEq, Nat.reduceAdd]
    by_cases h111 : g (pp s) = 111
    · rw [if_pos h111]
      simp only [fs47_37, fs47_38, fs47_41, fs47_42, fj_YO ho t, fj_OB, fj_AR, fj_CI, q_zo0, q_zo1, Option.toList_some, Option.toList_none, List.cons_append, List.nil_append, true_and, and_true, true_or, if_true, if_false, q_l10, q_l01, eq_self, Int32.reduceLT, Int32.reduceLE, Int32.reduceAdd, Int32.reduceSub, fj_up_at, Nat.reduceEqDiff, false_and, and_false, and_self, reduceCtorEq, Nat.reduceAdd]
      by_cases hq : pq s = 2
      · rw [if_pos (by first | exact b2.trans (by rw [hq]; rfl) | (rw [if_neg (by omega)]; exact hP.2.2.1.trans (by rw [hq]; rfl)) | exact hP.2.2.1.trans (by rw [hq]; rfl))]
        simp only [fs47_45, fs47_46, fs47_47, fs47_48, fj_OB, fj_AR, fj_CI, q_zo0, q_zo1, Option.toList_some, Option.toList_none, List.cons_append, List.nil_append, true_and, and_true, true_or, if_true, if_false, q_l10, q_l01, eq_self, Int32.reduceLT, Int32.reduceLE, Int32.reduceAdd, Int32.reduceSub, fj_up_at, Nat.reduceEqDiff, false_and, and_false, and_self, reduceCtorEq, Nat.reduceAdd]
        exact hL _ (pp s) fr1 (by unfold pRd; rw [if_neg h46, if_pos h111, if_pos hq]) b10 (Nat.le_succ _)
      · have hq2 : pq s < 2 := by omega
        rw [if_neg (by
          intro z
          have e := b2
          simp only [fj_up_at] at e z
          rw [e, show (2 : Int32) = nI 2 from rfl, q_eq (by omega) (by omega)] at z
          exact hq z)]
        simp only [fs47_49, fs47_50, fs47_53, fs47_54, fs47_55, fs47_56, fj_YO ho t, fj_OB, fj_AR, fj_CI, q_zo0, q_zo1, Option.toList_some, Option.toList_none, List.cons_append, List.nil_append, true_and, and_true, true_or, if_true, if_false, q_l10, q_l01, eq_self, Int32.reduceLT, Int32.reduceLE, Int32.reduceAdd, Int32.reduceSub, fj_up_at, Nat.reduceEqDiff, false_and, and_false, and_self, reduceCtorEq, Nat.reduceAdd, m49 ho t hq2 hc b0 b2, nI_1]
        refine hR _ (pp s + 1, pn s, pq s + 1, fupI (pic s) c (nI (6 + pq s)), pkd s, per s, pmc s, fupN (poc s) (pq s) c) (fun o' h => ?_) (by unfold pRd; rw [if_neg h46, if_pos h111, if_neg hq]) (fj_PC_oil ho hP1 hq2) ⟨o1, hq2, o3', fun x hx => ?_⟩ (Nat.le_succ _)
        · rw [← fr1 o' h]
          funext j
          rw [fj_up_at, if_neg (by omega), fj_up_at, if_neg (by omega), fj_up_at, if_neg (by omega)]
        · show fupN (poc s) (pq s) c x < c + 1
          have hx' : x < pq s + 1 := hx
          unfold fupN
          split
          · omega
          · exact o4' x (by omega)
    · rw [if_neg h111]
      simp only [fs47_57, fs47_59, fs47_62, fs47_64, fs47_66, fs47_68, fj_OB, fj_AR, fj_CI, q_zo0, q_zo1, Option.toList_some, Option.toList_none, List.cons_append, List.nil_append, true_and, and_true, true_or, if_true, if_false, q_l10, q_l01, eq_self, Int32.reduceLT, Int32.reduceLE, Int32.reduceAdd, Int32.reduceSub, fj_up_at, Nat.reduceEqDiff, false_and, and_false, and_self, reduceCtorEq, Nat.reduceAdd, m48]
      cases hk : pKind (g (pp s)) with
      | none =>
        rw [if_pos (show kI none = -9 from rfl)]
        simp only [fs47_80, fs47_81, fs47_82, fs47_83, fj_OB, fj_AR, fj_CI, q_zo0, q_zo1, Option.toList_some, Option.toList_none, List.cons_append, List.nil_append, true_and, and_true, true_or, if_true, if_false, q_l10, q_l01, eq_self, Int32.reduceLT, Int32.reduceLE, Int32.reduceAdd, Int32.reduceSub, fj_up_at, Nat.reduceEqDiff, false_and, and_false, and_self, reduceCtorEq, Nat.reduceAdd]
        exact hL _ (pp s) fr1 (by unfold pRd; rw [if_neg h46, if_neg h111, hk]) b10 (Nat.le_succ _)
      | some k =>
        have hk2 := pKind_le hk
        rw [if_neg (show ¬ kI (some k) = -9 from fun z => by
          have e : (nI k).toInt = (-9 : Int32).toInt := by rw [← z]; rfl
          rw [q_toInt (by omega)] at e
          have : (-9 : Int32).toInt = -9 := rfl
          omega)]
        simp only [fs47_71, fs47_72, fs47_75, fs47_77, fj_YO ho t, fj_OB, fj_AR, fj_CI, q_zo0, q_zo1, Option.toList_some, Option.toList_none, List.cons_append, List.nil_append, true_and, and_true, true_or, if_true, if_false, q_l10, q_l01, eq_self, Int32.reduceLT, Int32.reduceLE, Int32.reduceAdd, Int32.reduceSub, fj_up_at, Nat.reduceEqDiff, false_and, and_false, and_self, reduceCtorEq, Nat.reduceAdd]
        by_cases h6 : pn s = 6
        · rw [if_pos (by
            have e := b1
            simp only [fj_up_at] at e ⊢
            rw [e, h6]
            rfl)]
          simp only [fs47_80, fs47_81, fs47_82, fs47_83, fj_OB, fj_AR, fj_CI, q_zo0, q_zo1, Option.toList_some, Option.toList_none, List.cons_append, List.nil_append, true_and, and_true, true_or, if_true, if_false, q_l10, q_l01, eq_self, Int32.reduceLT, Int32.reduceLE, Int32.reduceAdd, Int32.reduceSub, fj_up_at, Nat.reduceEqDiff, false_and, and_false, and_self, reduceCtorEq, Nat.reduceAdd]
          exact hL _ (pp s) fr1 (by unfold pRd; rw [if_neg h46, if_neg h111, hk]; simp only; rw [if_pos h6]) b10 (Nat.le_succ _)
        · have h6' : pn s < 6 := by omega
          rw [if_neg (by
            intro z
            have e := b1
            simp only [fj_up_at] at e z
            rw [e, show (6 : Int32) = nI 6 from rfl, q_eq (by omega) (by omega)] at z
            exact h6 z)]
          simp only [fs47_84, fs47_85, fs47_86, fs47_87, fs47_88, fs47_89, fs47_92, fs47_94, fs47_95, fs47_97, fs47_99, fj_OB, fj_AR, fj_CI, q_zo0, q_zo1, Option.toList_some, Option.toList_none, List.cons_append, List.nil_append, true_and, and_true, true_or, if_true, if_false, q_l10, q_l01, eq_self, Int32.reduceLT, Int32.reduceLE, Int32.reduceAdd, Int32.reduceSub, fj_up_at, Nat.reduceEqDiff, false_and, and_false, and_self, reduceCtorEq, Nat.reduceAdd, nI_1, m46 hn (show pp s + 1 < 100000 by omega), hg1]
          by_cases hlt : g (pp s + 1) - 48 < 0
          · rw [if_pos hlt]
            simp only [fs47_108, fs47_109, fs47_110, fs47_111, fs47_112, fs47_113, fj_OB, fj_AR, fj_CI, q_zo0, q_zo1, Option.toList_some, Option.toList_none, List.cons_append, List.nil_append, true_and, and_true, true_or, if_true, if_false, q_l10, q_l01, eq_self, Int32.reduceLT, Int32.reduceLE, Int32.reduceAdd, Int32.reduceSub, fj_up_at, Nat.reduceEqDiff, false_and, and_false, and_self, reduceCtorEq, Nat.reduceAdd, nI_1]
            exact hL _ (pp s + 1) fr1 (by unfold pRd; rw [if_neg h46, if_neg h111, hk]; simp only; rw [if_neg h6, if_pos hlt]) b10 (Nat.le_refl _)
          · rw [if_neg hlt]
            simp only [fs47_102, fs47_104, fs47_105, fj_OB, fj_AR, fj_CI, q_zo0, q_zo1, Option.toList_some, Option.toList_none, List.cons_append, List.nil_append, true_and, and_true, true_or, if_true, if_false, q_l10, q_l01, eq_self, Int32.reduceLT, Int32.reduceLE, Int32.reduceAdd, Int32.reduceSub, fj_up_at, Nat.reduceEqDiff, false_and, and_false, and_self, reduceCtorEq, Nat.reduceAdd]
            by_cases h5 : g (pp s + 1) - 48 ≤ 5
            · rw [if_pos h5]
              obtain ⟨e1, e2⟩ := q_05 hlt h5
              have ek : kI (some k) = nI k := rfl
              have eP := fj_PC_man (p := pp s + 2) (k := k) (e := (g (pp s + 1) - 48).toNatClampNeg) ho hP1 h6' hc
              rw [← e1] at eP
              simp only [fs47_114, fs47_115, fs47_117, fs47_119, fs47_122, fs47_123, fs47_124, fs47_125, fj_YO ho t, fj_OB, fj_AR, fj_CI, q_zo0, q_zo1, Option.toList_some, Option.toList_none, List.cons_append, List.nil_append, true_and, and_true, true_or, if_true, if_false, q_l10, q_l01, eq_self, Int32.reduceLT, Int32.reduceLE, Int32.reduceAdd, Int32.reduceSub, fj_up_at, Nat.reduceEqDiff, false_and, and_false, and_self, reduceCtorEq, Nat.reduceAdd, ek, m50 ho t h6' hc b0 b1, show nI (pp s) + 2 = nI (pp s + 2) from by rw [show (2 : Int32) = nI 2 from rfl, nI_add]]
              refine hR _ (pp s + 2, pn s + 1, pq s, fupI (pic s) c (nI (pn s)), fupN (pkd s) (pn s) k, fupN (per s) (pn s) (g (pp s + 1) - 48).toNatClampNeg, fupN (pmc s) (pn s) c, poc s) (fun o' h => ?_) (by unfold pRd; rw [if_neg h46, if_neg h111, hk]; simp only; rw [if_neg h6, if_neg hlt, if_pos h5]) eP ⟨h6', o2, fun m hm => ?_, o4'⟩ (Nat.le_refl _)
              · rw [← fr1 o' h]
                funext j
                rw [fj_up_at, if_neg (by omega), fj_up_at, if_neg (by omega), fj_up_at, if_neg (by omega), fj_up_at, if_neg (by omega), fj_up_at, if_neg (by omega)]
              · have hm' : m < pn s + 1 := hm
                show fupN (pkd s) (pn s) k m ≤ 2 ∧ fupN (per s) (pn s) _ m ≤ 5 ∧ fupN (pmc s) (pn s) c m < c + 1
                unfold fupN
                split
                · exact ⟨hk2, e2, Nat.lt_succ_self c⟩
                · exact o3' m (by omega)
            · rw [if_neg h5]
              simp only [fs47_108, fs47_109, fs47_110, fs47_111, fs47_112, fs47_113, fj_OB, fj_AR, fj_CI, q_zo0, q_zo1, Option.toList_some, Option.toList_none, List.cons_append, List.nil_append, true_and, and_true, true_or, if_true, if_false, q_l10, q_l01, eq_self, Int32.reduceLT, Int32.reduceLE, Int32.reduceAdd, Int32.reduceSub, fj_up_at, Nat.reduceEqDiff, false_and, and_false, and_self, reduceCtorEq, Nat.reduceAdd, nI_1]
              exact hL _ (pp s + 1) fr1 (by unfold pRd; rw [if_neg h46, if_neg h111, hk]; simp only; rw [if_neg h6, if_neg hlt, if_neg h5]) b10 (Nat.le_refl _)
