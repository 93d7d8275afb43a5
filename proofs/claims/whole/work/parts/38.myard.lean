/-! ===== the reference reads a whole text ===== -/
/-- as fj_RF, but the high and the wide change, too -/
def fj_RG (M M' : fj_HM) : Prop := (∀ o', o' ≠ 33 → (o' < 39 ∨ 43 < o') → M' o' = M o') ∧ ∀ k, (k < 13 ∨ 17 < k) → M' 33 k = M 33 k
theorem fj_RG_u {M M1 : fj_HM} {o k : Nat} {v : Int32} (ho : o = 33 ∧ 13 ≤ k ∧ k ≤ 17) (h : fj_RG M M1) : fj_RG M (fj_up M1 o k v) :=
  ⟨fun o' a b => by rw [← h.1 o' a b]; funext j; rw [fj_up_at, if_neg (by omega)], fun k' a => by rw [← h.2 k' a, fj_up_at, if_neg (by omega)]⟩
theorem fj_RG_t {M M1 M2 : fj_HM} (h : fj_RG M M1) (h2 : fj_RF M1 M2) : fj_RG M M2 := ⟨fun o a b => (h2.1 o a b).trans (h.1 o a b), fun k a => (h2.2 k (by omega) (by omega) (by omega)).trans (h.2 k a)⟩
theorem m112 {t : Bool} {M : fj_HM} {a n : Nat} (hn : a + n ≤ 240) {Q : fj_Po}
  (hF : ∀ M' f, fj_RG M M' → pAll (gM M a n) n = .inl f → M' 33 13 = nI f → Q (some (.int 0)) M' (fj_PY t) 53 7835)
  (hG : ∀ M' h w s, fj_RG M M' → pAll (gM M a n) n = .inr (pYd h w s) → 1 ≤ h → h ≤ 4 → 2 ≤ w → w ≤ 6 → M' 33 14 = nI h → M' 33 15 = nI w → fj_PR M' (h * w) s → pOk (h * w) s → Q (some (.int 1)) M' (fj_PY t) 53 7835) :
  fj_H none 112 0 [.ref 33, .int (nI a), .int (nI n), .null, .null] [] M (fj_PY t) 53 7835 Q := by
  have n9 : ((0 : Int32) < -9) = False := eq_false (by decide)
  have n9' : (-9 : Int32) ≤ 0 := by decide
  have z01 : nI 0 + 1 = 1 := rfl
  have rM : fj_RG M M := ⟨fun _ _ _ => rfl, fun _ _ => rfl⟩
  have m51 : ∀ M', fj_RG M M' → ∀ p, gM M' a n p = gM M a n p := fun M' r p => by unfold gM; rw [r.1 51 (by decide) (by decide)]
  have r0 : fj_RG M (fj_up (fj_up (fj_up M 33 13 0) 33 16 0) 33 17 0) := fj_RG_u (by decide) (fj_RG_u (by decide) (fj_RG_u (by decide) rM))
  have e0 : fj_up (fj_up (fj_up M 33 13 0) 33 16 0) 33 17 0 33 13 = nI 0 := rfl
  simp only [fs112_0, fs112_1, fs112_2, fs112_5, fs112_6, fs112_7, fs112_10, fs112_11, fs112_12, fs112_15, fs112_16, fs112_17, fs112_18, fj_PV t, fj_OB, fj_AR, fj_CI, q_zo0, q_zo1, Option.toList_some, Option.toList_none, List.cons_append, List.nil_append, true_and, and_true, true_or, if_true, if_false, q_l10, q_l01, eq_self, Int32.reduceLT, Int32.reduceLE, Int32.reduceAdd, Int32.reduceSub, fj_up_at, Nat.reduceEqDiff, false_and, and_false, and_self, reduceCtorEq, Nat.reduceAdd, m108 hn (show 0 < 100000 by decide) e0, m51 _ r0]
  generalize hM0 : fj_up (fj_up (fj_up M 33 13 0) 33 16 0) 33 17 0 = M0 at *
  have z16 : M0 33 16 = 0 := by rw [← hM0]; rfl
  have z17 : M0 33 17 = 0 := by rw [← hM0]; rfl
  simp only [fs112_21, fs112_23, fj_OB, fj_AR, fj_CI, q_zo0, q_zo1, Option.toList_some, Option.toList_none, List.cons_append, List.nil_append, true_and, and_true, true_or, if_true, if_false, q_l10, q_l01, eq_self, Int32.reduceLT, Int32.reduceLE, Int32.reduceAdd, Int32.reduceSub, fj_up_at, Nat.reduceEqDiff, false_and, and_false, and_self, reduceCtorEq, Nat.reduceAdd]
  by_cases hy : gM M a n 0 = 121
  · rw [if_pos hy]
    have e1 : fj_up M0 33 13 1 33 13 = nI 1 := rfl
    have r1 : fj_RG M (fj_up M0 33 13 1) := fj_RG_u (by decide) r0
    simp only [fs112_26, fs112_27, fs112_31, fs112_32, fs112_33, fs112_33i, fs112_34, fs112_37, fs112_38, fs112_41, fs112_42, fs112_46, fs112_47, fs112_50, fs112_51, fs112_52, fs112_55, fs112_56, fs112_57, fs112_58, fs112_59, fs112_60, fj_PV t, fj_OB, fj_AR, fj_CI, q_zo0, q_zo1, Option.toList_some, Option.toList_none, List.cons_append, List.nil_append, true_and, and_true, true_or, if_true, if_false, q_l10, q_l01, eq_self, Int32.reduceLT, Int32.reduceLE, Int32.reduceAdd, Int32.reduceSub, fj_up_at, Nat.reduceEqDiff, false_and, and_false, and_self, reduceCtorEq, Nat.reduceAdd, e0, z01, m109 hn (show 1 < 10000 by decide) e1, m51 _ r1]
    have out : ∀ (M3 : fj_HM) (f : Nat), fj_RG M M3 → pAll (gM M a n) n = .inl f → M3 33 13 = nI f → fj_H none 112 93 [.ref 33, .int (nI a), .int (nI n), .int 1, .null] [.int (-9), .ref 33] M3 (fj_PY t) 53 7835 Q := by
      intro M3 f r3 e3 b3
      simp only [fs112_93, fs112_96, fs112_97, fs112_100, fs112_107, fs112_108, fs112_109, fs112_110, fj_PV t, fj_OB, fj_AR, fj_CI, q_zo0, q_zo1, Option.toList_some, Option.toList_none, List.cons_append, List.nil_append, true_and, and_true, true_or, if_true, if_false, q_l10, q_l01, eq_self, Int32.reduceLT, Int32.reduceLE, Int32.reduceAdd, Int32.reduceSub, fj_up_at, Nat.reduceEqDiff, false_and, and_false, and_self, reduceCtorEq, Nat.reduceAdd, if_pos n9']
      rw [fs112_112]
      simp only [fs112_113, fs112_145, fs112_146, fs112_161, fs112_162, fj_OB, fj_AR, fj_CI, q_zo0, q_zo1, Option.toList_some, Option.toList_none, List.cons_append, List.nil_append, true_and, and_true, true_or, if_true, if_false, q_l10, q_l01, eq_self, Int32.reduceLT, Int32.reduceLE, Int32.reduceAdd, Int32.reduceSub, fj_up_at, Nat.reduceEqDiff, false_and, and_false, and_self, reduceCtorEq, Nat.reduceAdd]
      refine hF _ f (fj_RG_u (by omega) r3) e3 ?_
      rw [fj_up_at, if_neg (by omega)]
      exact b3
    by_cases h1 : gM M a n 1 - 48 < 1
    · rw [if_pos h1]
      simp only [fs112_63, fs112_68, fs112_71, fs112_72, fs112_73, fs112_76, fs112_91, fj_PV t, fj_OB, fj_AR, fj_CI, q_zo0, q_zo1, Option.toList_some, Option.toList_none, List.cons_append, List.nil_append, true_and, and_true, true_or, if_true, if_false, q_l10, q_l01, eq_self, Int32.reduceLT, Int32.reduceLE, Int32.reduceAdd, Int32.reduceSub, fj_up_at, Nat.reduceEqDiff, false_and, and_false, and_self, reduceCtorEq, Nat.reduceAdd, if_pos n9']
      exact out _ 1 (fj_RG_u (by omega) r1) (by unfold pAll; rw [if_pos hy, if_pos h1]) (by rw [fj_up_at, if_neg (by omega)]; exact e1)
    · rw [if_neg h1]
      by_cases h4 : gM M a n 1 - 48 ≤ 4
      · rw [if_neg (Int32.not_lt.mpr h4)]
        obtain ⟨h, eh, eh2, l1, l2⟩ : ∃ h, gM M a n 1 - 48 = nI h ∧ (gM M a n 1 - 48).toNatClampNeg = h ∧ 1 ≤ h ∧ h ≤ 4 := by
          obtain ⟨b1, b2, b3⟩ := q_rng (lo := 1) (hi := 4) (by decide) (by decide) h1 h4
          exact ⟨_, b1, rfl, b2, b3⟩
        have eA : pAll (gM M a n) n = (if gM M a n 2 - 48 < 2 then .inl 2 else if gM M a n 2 - 48 ≤ 6 then (match pGo (gM M a n) (gM M a n 2 - 48).toNatClampNeg (h * (gM M a n 2 - 48).toNatClampNeg) 0 p0 with | .inl f => .inl f | .inr s => if pp s < n then .inl (pp s) else .inr (pYd h (gM M a n 2 - 48).toNatClampNeg s)) else .inl 2) := by
          unfold pAll
          rw [if_pos hy, if_neg h1, if_pos h4, eh2]
          rfl
        have eh0 : (nI h ≤ 0) = False := eq_false (by rw [q_0, q_le (by omega) (by omega)]; omega)
        have r2 : fj_RG M (fj_up (fj_up (fj_up M0 33 13 1) 33 13 (nI (1 + 1))) 33 14 (nI h)) := fj_RG_u (by omega) (fj_RG_u (by omega) r1)
        have e2 : fj_up (fj_up (fj_up M0 33 13 1) 33 13 (nI (1 + 1))) 33 14 (nI h) 33 13 = nI 2 := rfl
        rw [eh]
        simp only [fs112_63, fs112_68, fs112_71, fs112_72, fs112_73, fs112_76, fj_PV t, fj_OB, fj_AR, fj_CI, q_zo0, q_zo1, Option.toList_some, Option.toList_none, List.cons_append, List.nil_append, true_and, and_true, true_or, if_true, if_false, q_l10, q_l01, eq_self, Int32.reduceLT, Int32.reduceLE, Int32.reduceAdd, Int32.reduceSub, fj_up_at, Nat.reduceEqDiff, false_and, and_false, and_self, reduceCtorEq, Nat.reduceAdd, eh0]
        simp only [fs112_79, fs112_80, fs112_81, fs112_82, fs112_83, fs112_85, fj_PV t, fj_OB, fj_AR, fj_CI, q_zo0, q_zo1, Option.toList_some, Option.toList_none, List.cons_append, List.nil_append, true_and, and_true, true_or, if_true, if_false, q_l10, q_l01, eq_self, Int32.reduceLT, Int32.reduceLE, Int32.reduceAdd, Int32.reduceSub, fj_up_at, Nat.reduceEqDiff, false_and, and_false, and_self, reduceCtorEq, Nat.reduceAdd, m109 hn (show 2 < 10000 by decide) e2, m51 _ r2]
        by_cases h2 : gM M a n 2 - 48 < 2
        · rw [if_pos h2]
          simp only [fs112_88, fj_PV t, fj_OB, fj_AR, fj_CI, q_zo0, q_zo1, Option.toList_some, Option.toList_none, List.cons_append, List.nil_append, true_and, and_true, true_or, if_true, if_false, q_l10, q_l01, eq_self, Int32.reduceLT, Int32.reduceLE, Int32.reduceAdd, Int32.reduceSub, fj_up_at, Nat.reduceEqDiff, false_and, and_false, and_self, reduceCtorEq, Nat.reduceAdd]
          exact out _ 2 r2 (by rw [eA, if_pos h2]) e2
        · rw [if_neg h2]
          by_cases h6 : gM M a n 2 - 48 ≤ 6
          · rw [if_neg (Int32.not_lt.mpr h6)]
            obtain ⟨w, ew, ew2, k1, k2⟩ : ∃ w, gM M a n 2 - 48 = nI w ∧ (gM M a n 2 - 48).toNatClampNeg = w ∧ 2 ≤ w ∧ w ≤ 6 := by
              obtain ⟨b1, b2, b3⟩ := q_rng (lo := 2) (hi := 6) (by decide) (by decide) h2 h6
              exact ⟨_, b1, rfl, b2, b3⟩
            have eB : pAll (gM M a n) n = (match pGo (gM M a n) w (h * w) 0 p0 with | .inl f => .inl f | .inr s => if pp s < n then .inl (pp s) else .inr (pYd h w s)) := by rw [eA, if_neg h2, if_pos h6, ew2]
            have ew0 : (nI w ≤ 0) = False := eq_false (by rw [q_0, q_le (by omega) (by omega)]; omega)
            rw [ew]
            simp only [fs112_88, fs112_93, fs112_96, fs112_97, fs112_100, fj_PV t, fj_OB, fj_AR, fj_CI, q_zo0, q_zo1, Option.toList_some, Option.toList_none, List.cons_append, List.nil_append, true_and, and_true, true_or, if_true, if_false, q_l10, q_l01, eq_self, Int32.reduceLT, Int32.reduceLE, Int32.reduceAdd, Int32.reduceSub, fj_up_at, Nat.reduceEqDiff, false_and, and_false, and_self, reduceCtorEq, Nat.reduceAdd, ew0]
            simp only [fs112_103, fs112_104, fs112_108, fs112_109, fs112_110, fj_PV t, fj_OB, fj_AR, fj_CI, q_zo0, q_zo1, Option.toList_some, Option.toList_none, List.cons_append, List.nil_append, true_and, and_true, true_or, if_true, if_false, q_l10, q_l01, eq_self, Int32.reduceLT, Int32.reduceLE, Int32.reduceAdd, Int32.reduceSub, fj_up_at, Nat.reduceEqDiff, false_and, and_false, and_self, reduceCtorEq, Nat.reduceAdd]
            have r3 : fj_RG M (fj_up (fj_up (fj_up (fj_up (fj_up M0 33 13 1) 33 13 (nI (1 + 1))) 33 14 (nI h)) 33 13 (nI (2 + 1))) 33 15 (nI w)) := fj_RG_u (by omega) (fj_RG_u (by omega) r2)
            refine m112_loop hn l2 (show 0 < w by omega) k2 (h * w) 0 p0 _ rfl ?_ ?_ ?_ ?_ (Nat.le_refl _) (m51 _ r3) (fun M' f r4 e4 b4 => hF M' f (fj_RG_t r3 r4) (by rw [eB, e4]) b4) (fun M' s' r4 e4 b1 b2 b3 => ?_)
            · rfl
            · rfl
            · refine ⟨rfl, ?_, ?_, fun j hj => absurd hj (Nat.not_lt_zero j), fun m hm => absurd hm (Nat.not_lt_zero m), fun x hx => absurd hx (Nat.not_lt_zero x)⟩
              · simp only [fj_up_at, true_and]
                repeat (first | rw [if_neg (by omega)] | rw [if_pos (by omega)])
                exact z16
              · simp only [fj_up_at, true_and]
                repeat (first | rw [if_neg (by omega)] | rw [if_pos (by omega)])
                exact z17
            · exact ⟨Nat.zero_le _, Nat.zero_le _, fun m hm => absurd hm (Nat.not_lt_zero m), fun x hx => absurd hx (Nat.not_lt_zero x)⟩
            · have hle : pp s' ≤ n := by
                rcases pGo_nM (n := n) (fun p hp => by unfold gM; rw [if_neg (by omega)]) _ _ _ _ e4 with z | z
                · exfalso
                  have : 1 * 2 ≤ h * w := Nat.mul_le_mul l1 k1
                  omega
                · exact z
              by_cases hlt : pp s' < n
              · rw [decide_eq_false (by omega)]
                exact hF M' (pp s') (fj_RG_t r3 r4) (by rw [eB, e4]; show (if pp s' < n then _ else _) = _; rw [if_pos hlt]) b1.1
              · rw [decide_eq_true (by omega)]
                refine hG M' h w s' (fj_RG_t r3 r4) (by rw [eB, e4]; show (if pp s' < n then _ else _) = _; rw [if_neg hlt]) l1 l2 k1 k2 ?_ ?_ b1 b2
                · rw [r4.2 14 (by decide) (by decide) (by decide)]
                  rfl
                · rw [r4.2 15 (by decide) (by decide) (by decide)]
                  rfl
          · rw [if_pos (Int32.not_le.mp h6)]
            simp only [fs112_88, fj_PV t, fj_OB, fj_AR, fj_CI, q_zo0, q_zo1, Option.toList_some, Option.toList_none, List.cons_append, List.nil_append, true_and, and_true, true_or, if_true, if_false, q_l10, q_l01, eq_self, Int32.reduceLT, Int32.reduceLE, Int32.reduceAdd, Int32.reduceSub, fj_up_at, Nat.reduceEqDiff, false_and, and_false, and_self, reduceCtorEq, Nat.reduceAdd]
            exact out _ 2 r2 (by rw [eA, if_neg h2, if_neg h6]) e2
      · rw [if_pos (Int32.not_le.mp h4)]
        simp only [fs112_63, fs112_68, fs112_71, fs112_72, fs112_73, fs112_76, fs112_91, fj_PV t, fj_OB, fj_AR, fj_CI, q_zo0, q_zo1, Option.toList_some, Option.toList_none, List.cons_append, List.nil_append, true_and, and_true, true_or, if_true, if_false, q_l10, q_l01, eq_self, Int32.reduceLT, Int32.reduceLE, Int32.reduceAdd, Int32.reduceSub, fj_up_at, Nat.reduceEqDiff, false_and, and_false, and_self, reduceCtorEq, Nat.reduceAdd, if_pos n9']
        exact out _ 1 (fj_RG_u (by omega) r1) (by unfold pAll; rw [if_pos hy, if_neg h1, if_neg h4]) (by rw [fj_up_at, if_neg (by omega)]; exact e1)
  · rw [if_neg hy]
    simp only [fs112_30, fs112_31, fs112_32, fs112_33, fs112_33i, fs112_34, fs112_37, fs112_38, fs112_45, fs112_46, fs112_47, fs112_50, fs112_51, fs112_52, fs112_66, fs112_68, fs112_71, fs112_72, fs112_73, fs112_76, fs112_91, fs112_93, fs112_96, fs112_97, fs112_100, fs112_107, fs112_108, fs112_109, fs112_110, fj_PV t, fj_OB, fj_AR, fj_CI, q_zo0, q_zo1, Option.toList_some, Option.toList_none, List.cons_append, List.nil_append, true_and, and_true, true_or, if_true, if_false, q_l10, q_l01, eq_self, Int32.reduceLT, Int32.reduceLE, Int32.reduceAdd, Int32.reduceSub, fj_up_at, Nat.reduceEqDiff, false_and, and_false, and_self, reduceCtorEq, Nat.reduceAdd, e0, n9', if_pos n9', Int32.add_zero]
    rw [fs112_112]
    simp only [fs112_113, fs112_145, fs112_146, fs112_161, fs112_162, fj_OB, fj_AR, fj_CI, q_zo0, q_zo1, Option.toList_some, Option.toList_none, List.cons_append, List.nil_append, true_and, and_true, true_or, if_true, if_false, q_l10, q_l01, eq_self, Int32.reduceLT, Int32.reduceLE, Int32.reduceAdd, Int32.reduceSub, fj_up_at, Nat.reduceEqDiff, false_and, and_false, and_self, reduceCtorEq, Nat.reduceAdd]
    refine hF _ 0 (fj_RG_u (by decide) (fj_RG_u (by decide) (fj_RG_u (by decide) r0))) (by unfold pAll; rw [if_neg hy]) ?_
    simp only [fj_up_at]
    rfl
