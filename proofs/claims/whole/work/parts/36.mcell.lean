/-! ===== the reference reads a cell ===== -/
theorem fj_up_id {M : fj_HM} {o k : Nat} {v : Int32} (h : M o k = v) : fj_up M o k v = M := by
  funext a b
  rw [fj_up_at]
  by_cases e : a = o ∧ b = k
  · rw [if_pos e, ← h, e.1, e.2]
  · rw [if_neg e]
theorem m109 {t : Bool} {M : fj_HM} {a n p : Nat} {lo hi : Int32} (hn : a + n ≤ 240) (hp : p < 10000) (h13 : M 33 13 = nI p) {Q : fj_Po} : fj_H none 109 0 [.ref 33, .int (nI a), .int (nI n), .int lo, .int hi, .null, .null] [] M (fj_PY t) 53 7835 Q = if gM M a n p - 48 < lo then Q (some (.int (-9))) M (fj_PY t) 53 7835 else if hi < gM M a n p - 48 then Q (some (.int (-9))) M (fj_PY t) 53 7835 else Q (some (.int (gM M a n p - 48))) (fj_up M 33 13 (nI (p + 1))) (fj_PY t) 53 7835 := by
  have e0 : fj_up M 33 13 (nI p + 0) = M := fj_up_id (by rw [h13, Int32.add_zero])
  simp only [fs109_0, fs109_1, fs109_2, fs109_3, fs109_6, fs109_8, fs109_9, fs109_11, fs109_13, fs109_14, fs109_15, fs109_16, fs109_18, fs109_19, fj_PV t, fj_OB, fj_AR, fj_CI, q_zo0, q_zo1, Option.toList_some, Option.toList_none, List.cons_append, List.nil_append, true_and, and_true, true_or, if_true, if_false, q_l10, q_l01, eq_self, Int32.reduceLT, Int32.reduceLE, Int32.reduceAdd, Int32.reduceSub, fj_up_at, Nat.reduceEqDiff, false_and, and_false, and_self, reduceCtorEq, Nat.reduceAdd, m108 hn (show p < 100000 by omega) h13, m97]
  by_cases h1 : gM M a n p - 48 < lo
  · rw [if_pos h1, if_pos h1]
    simp only [fs109_22, fs109_24, fs109_25, fs109_25i, fs109_26, fs109_29, fs109_31, fs109_38, fs109_39, fs109_40, fs109_43, fs109_45, fs109_53, fs109_55, fj_PV t, fj_OB, fj_AR, fj_CI, q_zo0, q_zo1, Option.toList_some, Option.toList_none, List.cons_append, List.nil_append, true_and, and_true, true_or, if_true, if_false, q_l10, q_l01, eq_self, Int32.reduceLT, Int32.reduceLE, Int32.reduceAdd, Int32.reduceSub, fj_up_at, Nat.reduceEqDiff, false_and, and_false, and_self, reduceCtorEq, Nat.reduceAdd, h13, e0]
  · rw [if_neg h1, if_neg h1]
    by_cases h2 : hi < gM M a n p - 48
    · rw [if_pos h2, if_pos h2]
      simp only [fs109_22, fs109_24, fs109_25, fs109_25i, fs109_26, fs109_29, fs109_31, fs109_38, fs109_39, fs109_40, fs109_43, fs109_45, fs109_53, fs109_55, fj_PV t, fj_OB, fj_AR, fj_CI, q_zo0, q_zo1, Option.toList_some, Option.toList_none, List.cons_append, List.nil_append, true_and, and_true, true_or, if_true, if_false, q_l10, q_l01, eq_self, Int32.reduceLT, Int32.reduceLE, Int32.reduceAdd, Int32.reduceSub, fj_up_at, Nat.reduceEqDiff, false_and, and_false, and_self, reduceCtorEq, Nat.reduceAdd, h13, e0]
    · rw [if_neg h2, if_neg h2]
      simp only [fs109_22, fs109_24, fs109_25, fs109_25i, fs109_26, fs109_29, fs109_31, fs109_34, fs109_35, fs109_39, fs109_40, fs109_43, fs109_45, fs109_48, fs109_50, fs109_55, fj_PV t, fj_OB, fj_AR, fj_CI, q_zo0, q_zo1, Option.toList_some, Option.toList_none, List.cons_append, List.nil_append, true_and, and_true, true_or, if_true, if_false, q_l10, q_l01, eq_self, Int32.reduceLT, Int32.reduceLE, Int32.reduceAdd, Int32.reduceSub, fj_up_at, Nat.reduceEqDiff, false_and, and_false, and_self, reduceCtorEq, Nat.reduceAdd, h13, nI_1]
/-- the reference, while it reads: i cells are told of -/
def fj_PR (M : fj_HM) (i : Nat) (s : fj_Tx) : Prop := M 33 13 = nI (pp s) ∧ M 33 16 = nI (pn s) ∧ M 33 17 = nI (pq s) ∧ (∀ k, k < i → M 39 k = pic s k) ∧ (∀ m, m < pn s → M 40 m = nI (pkd s m) ∧ M 41 m = nI (per s m) ∧ M 42 m = nI (pmc s m)) ∧ ∀ x, x < pq s → M 43 x = nI (poc s x)
theorem gM_up {M : fj_HM} {o k : Nat} {v : Int32} {a n p : Nat} (h : o ≠ 51) : gM (fj_up M o k v) a n p = gM M a n p := by
  unfold gM
  rw [fj_up_at, if_neg (show ¬ (51 = o ∧ a + p = k) from fun z => h z.1.symm)]
/-- what the reference's reader leaves alone -/
def fj_RF (M M' : fj_HM) : Prop := (∀ o', o' ≠ 33 → (o' < 39 ∨ 43 < o') → M' o' = M o') ∧ ∀ k, k ≠ 13 → k ≠ 16 → k ≠ 17 → M' 33 k = M 33 k
theorem fj_RF_r (M : fj_HM) : fj_RF M M := ⟨fun _ _ _ => rfl, fun _ _ _ _ => rfl⟩
theorem fj_RF_t {M M1 M2 : fj_HM} (h : fj_RF M M1) (h2 : fj_RF M1 M2) : fj_RF M M2 := ⟨fun o a b => (h2.1 o a b).trans (h.1 o a b), fun k a b c => (h2.2 k a b c).trans (h.2 k a b c)⟩
theorem fj_RF_u {M M1 : fj_HM} {o k : Nat} {v : Int32} (ho : (o = 33 ∧ (k = 13 ∨ k = 16 ∨ k = 17)) ∨ (39 ≤ o ∧ o ≤ 43)) (h : fj_RF M M1) : fj_RF M (fj_up M1 o k v) :=
  ⟨fun o' a b => by rw [← h.1 o' a b]; funext j; rw [fj_up_at, if_neg (by omega)], fun k' a b c => by rw [← h.2 k' a b c, fj_up_at, if_neg (by omega)]⟩
theorem fj_RF_g {M M' : fj_HM} (h : fj_RF M M') (a n p : Nat) : gM M' a n p = gM M a n p := by
  unfold gM
  rw [h.1 51 (by decide) (by decide)]
/-- a man's own text -/
def pMan (g : Nat → Int32) (k c : Nat) (s : fj_Tx) : Sum Nat fj_Tx := if pn s = 6 then .inl (pp s) else if g (pp s + 1) - 48 < 0 then .inl (pp s + 1) else if g (pp s + 1) - 48 ≤ 5 then .inr (pp s + 2, pn s + 1, pq s, fupI (pic s) c (nI (pn s)), fupN (pkd s) (pn s) k, fupN (per s) (pn s) (g (pp s + 1) - 48).toNatClampNeg, fupN (pmc s) (pn s) c, poc s) else .inl (pp s + 1)
theorem m110 {t : Bool} {M : fj_HM} {a n c k : Nat} {s : fj_Tx} {g : Nat → Int32} (hn : a + n ≤ 240) (hp : pp s < 1000) (hc : c < 24) (hk : k ≤ 2) (hP : fj_PR M c s) (hO : pOk c s) (hg : ∀ p, gM M a n p = g p) {Q : fj_Po}
  (hF : ∀ M' f, fj_RF M M' → pMan g k c s = .inl f → M' 33 13 = nI f → Q (some (.int 0)) M' (fj_PY t) 53 7835)
  (hG : ∀ M' s', fj_RF M M' → pMan g k c s = .inr s' → fj_PR M' (c + 1) s' → pOk (c + 1) s' → pp s' ≤ pp s + 2 → Q (some (.int 1)) M' (fj_PY t) 53 7835) :
  fj_H none 110 0 [.ref 33, .int (nI a), .int (nI n), .int (nI c), .int (nI k), .null] [] M (fj_PY t) 53 7835 Q := by
  obtain ⟨h13, h16, h17, a4, a5, a6⟩ := hP
  obtain ⟨o1, o2, o3, o4⟩ := hO
  have m9 : ((0 : Int32) ≤ -9) = False := eq_false (by decide)
  have e6 : (nI (pn s) = (6 : Int32)) = (pn s = 6) := by rw [show (6 : Int32) = nI 6 from rfl]; exact q_eq (by omega) (by decide)
  simp only [fs110_0, fs110_1, fs110_4, fs110_6, fj_PV t, fj_OB, fj_AR, fj_CI, q_zo0, q_zo1, Option.toList_some, Option.toList_none, List.cons_append, List.nil_append, true_and, and_true, true_or, if_true, if_false, q_l10, q_l01, eq_self, Int32.reduceLT, Int32.reduceLE, Int32.reduceAdd, Int32.reduceSub, fj_up_at, Nat.reduceEqDiff, false_and, and_false, and_self, reduceCtorEq, Nat.reduceAdd, h16, e6]
  by_cases h : pn s = 6
  · rw [if_pos h]
    simp only [fs110_9, fs110_10, fj_OB, fj_AR, fj_CI, q_zo0, q_zo1, Option.toList_some, Option.toList_none, List.cons_append, List.nil_append, true_and, and_true, true_or, if_true, if_false, q_l10, q_l01, eq_self, Int32.reduceLT, Int32.reduceLE, Int32.reduceAdd, Int32.reduceSub, fj_up_at, Nat.reduceEqDiff, false_and, and_false, and_self, reduceCtorEq, Nat.reduceAdd]
    exact hF M (pp s) (fj_RF_r M) (by unfold pMan; rw [if_pos h]) h13
  · rw [if_neg h]
    have hg1 : gM (fj_up M 33 13 (nI (pp s + 1))) a n (pp s + 1) = g (pp s + 1) := (gM_up (by decide)).trans (hg _)
    have e13 : fj_up M 33 13 (nI (pp s + 1)) 33 13 = nI (pp s + 1) := by rw [fj_up_at, if_pos ⟨rfl, rfl⟩]
    have r1 : fj_RF M (fj_up M 33 13 (nI (pp s + 1))) := fj_RF_u (by omega) (fj_RF_r M)
    simp only [fs110_11, fs110_12, fs110_12i, fs110_13, fs110_16, fs110_17, fs110_18, fs110_21, fs110_22, fs110_23, fs110_24, fs110_25, fs110_26, fj_PV t, fj_OB, fj_AR, fj_CI, q_zo0, q_zo1, Option.toList_some, Option.toList_none, List.cons_append, List.nil_append, true_and, and_true, true_or, if_true, if_false, q_l10, q_l01, eq_self, Int32.reduceLT, Int32.reduceLE, Int32.reduceAdd, Int32.reduceSub, fj_up_at, Nat.reduceEqDiff, false_and, and_false, and_self, reduceCtorEq, Nat.reduceAdd, h13, nI_1, m109 hn (show pp s + 1 < 10000 by omega) e13, hg1]
    by_cases h0 : g (pp s + 1) - 48 < 0
    · rw [if_pos h0]
      simp only [fs110_29, fs110_31, fs110_33, fs110_36, fs110_37, fj_OB, fj_AR, fj_CI, q_zo0, q_zo1, Option.toList_some, Option.toList_none, List.cons_append, List.nil_append, true_and, and_true, true_or, if_true, if_false, q_l10, q_l01, eq_self, Int32.reduceLT, Int32.reduceLE, Int32.reduceAdd, Int32.reduceSub, fj_up_at, Nat.reduceEqDiff, false_and, and_false, and_self, reduceCtorEq, Nat.reduceAdd, m9]
      exact hF _ (pp s + 1) r1 (by unfold pMan; rw [if_neg h, if_pos h0]) e13
    · rw [if_neg h0]
      by_cases h5 : g (pp s + 1) - 48 ≤ 5
      · rw [if_neg (Int32.not_lt.mpr h5)]
        obtain ⟨ev, ev5⟩ := q_05 h0 h5
        simp only [fs110_29, fs110_31, fs110_33, fj_OB, fj_AR, fj_CI, q_zo0, q_zo1, Option.toList_some, Option.toList_none, List.cons_append, List.nil_append, true_and, and_true, true_or, if_true, if_false, q_l10, q_l01, eq_self, Int32.reduceLT, Int32.reduceLE, Int32.reduceAdd, Int32.reduceSub, fj_up_at, Nat.reduceEqDiff, false_and, and_false, and_self, reduceCtorEq, Nat.reduceAdd, if_pos (Int32.not_lt.mp h0)]
        simp only [fs110_38, fs110_39, fs110_42, fs110_43, fs110_46, fs110_48, fs110_49, fs110_50, fs110_53, fs110_54, fs110_57, fs110_59, fs110_60, fs110_61, fs110_64, fs110_65, fs110_68, fs110_69, fs110_70, fs110_71, fs110_74, fs110_75, fs110_76, fs110_79, fs110_80, fs110_81, fs110_81i, fs110_82, fs110_85, fs110_86, fs110_87, fs110_90, fs110_91, fj_PV t, fj_OB, fj_AR, fj_CI, q_zo0, q_zo1, Option.toList_some, Option.toList_none, List.cons_append, List.nil_append, true_and, and_true, true_or, if_true, if_false, q_l10, q_l01, eq_self, Int32.reduceLT, Int32.reduceLE, Int32.reduceAdd, Int32.reduceSub, fj_up_at, Nat.reduceEqDiff, false_and, and_false, and_self, reduceCtorEq, Nat.reduceAdd, h16, q_in (show pn s < 6 by omega), q_in (show c < 24 by omega), q_clamp (show pn s < 100000 by omega), q_clamp (show c < 100000 by omega), nI_1]
        refine hG _ (pp s + 2, pn s + 1, pq s, fupI (pic s) c (nI (pn s)), fupN (pkd s) (pn s) k, fupN (per s) (pn s) (g (pp s + 1) - 48).toNatClampNeg, fupN (pmc s) (pn s) c, poc s) ?_ (by unfold pMan; rw [if_neg h, if_neg h0, if_pos h5]) ?_ ⟨?_, o2, fun m hm => ?_, fun x hx => ?_⟩ (Nat.le_refl _)
        · exact fj_RF_u (by omega) (fj_RF_u (by omega) (fj_RF_u (by omega) (fj_RF_u (by omega) (fj_RF_u (by omega) (fj_RF_u (by omega) r1)))))
        · refine ⟨?_, ?_, ?_, fun j hj => ?_, fun m hm => ?_, fun x hx => ?_⟩
          · simp only [fj_up_at, true_and]
            repeat (first | rw [if_neg (by omega)] | rw [if_pos (by omega)])
            rfl
          · simp only [fj_up_at, true_and]
            repeat (first | rw [if_neg (by omega)] | rw [if_pos (by omega)])
            rfl
          · simp only [fj_up_at, true_and]
            repeat (first | rw [if_neg (by omega)] | rw [if_pos (by omega)])
            exact h17
          · show _ = fupI (pic s) c (nI (pn s)) j
            simp only [fj_up_at, fupI, true_and]
            by_cases e : j = c
            · repeat (first | rw [if_neg (by omega)] | rw [if_pos (by omega)])
            · repeat (first | rw [if_neg (by omega)] | rw [if_pos (by omega)])
              exact a4 j (by omega)
          · have hm' : m < pn s + 1 := hm
            show _ = nI (fupN (pkd s) (pn s) k m) ∧ _ = nI (fupN (per s) (pn s) _ m) ∧ _ = nI (fupN (pmc s) (pn s) c m)
            simp only [fj_up_at, fupN, true_and]
            by_cases e : m = pn s
            · repeat (first | rw [if_neg (by omega)] | rw [if_pos (by omega)])
              exact ⟨rfl, ev, rfl⟩
            · repeat (first | rw [if_neg (by omega)] | rw [if_pos (by omega)])
              exact a5 m (by omega)
          · simp only [fj_up_at, true_and]
            repeat (first | rw [if_neg (by omega)] | rw [if_pos (by omega)])
            exact a6 x hx
        · show pn s + 1 ≤ 6
          omega
        · have hm' : m < pn s + 1 := hm
          show fupN (pkd s) (pn s) k m ≤ 2 ∧ fupN (per s) (pn s) _ m ≤ 5 ∧ fupN (pmc s) (pn s) c m < c + 1
          unfold fupN
          by_cases e : m = pn s
          · rw [if_pos e, if_pos e, if_pos e]
            exact ⟨hk, ev5, Nat.lt_succ_self c⟩
          · rw [if_neg e, if_neg e, if_neg e]
            have := o3 m (by omega)
            omega
        · have := o4 x hx
          show poc s x < c + 1
          omega
      · rw [if_pos (Int32.not_le.mp h5)]
        simp only [fs110_29, fs110_31, fs110_33, fs110_36, fs110_37, fj_OB, fj_AR, fj_CI, q_zo0, q_zo1, Option.toList_some, Option.toList_none, List.cons_append, List.nil_append, true_and, and_true, true_or, if_true, if_false, q_l10, q_l01, eq_self, Int32.reduceLT, Int32.reduceLE, Int32.reduceAdd, Int32.reduceSub, fj_up_at, Nat.reduceEqDiff, false_and, and_false, and_self, reduceCtorEq, Nat.reduceAdd, m9]
        exact hF _ (pp s + 1) r1 (by unfold pMan; rw [if_neg h, if_neg h0, if_neg h5]) e13
