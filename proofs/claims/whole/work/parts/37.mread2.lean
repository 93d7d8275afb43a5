/-! ===== the reference reads a cell, and a yard ===== -/
theorem pRd_k {g : Nat → Int32} {c k : Nat} {s : fj_Tx} (h1 : ¬ g (pp s) = 46) (h2 : ¬ g (pp s) = 111) (hk : pKind (g (pp s)) = some k) : pRd g c s = pMan g k c s := by
  unfold pRd
  rw [if_neg h1, if_neg h2, hk]
  rfl
theorem m111_k {t : Bool} {M : fj_HM} {a n c k : Nat} {s : fj_Tx} {g : Nat → Int32} {d : Value} (hn : a + n ≤ 240) (hp : pp s < 1000) (hc : c < 24) (hk : k ≤ 2) (hP : fj_PR M c s) (hO : pOk c s) (hg : ∀ p, gM M a n p = g p) (n1 : ¬ g (pp s) = 46) (n2 : ¬ g (pp s) = 111) (n3 : pKind (g (pp s)) = some k) {Q : fj_Po}
  (hF : ∀ M' f, fj_RF M M' → pRd g c s = .inl f → M' 33 13 = nI f → Q (some (.int 0)) M' (fj_PY t) 53 7835)
  (hG : ∀ M' s', fj_RF M M' → pRd g c s = .inr s' → fj_PR M' (c + 1) s' → pOk (c + 1) s' → pp s' ≤ pp s + 2 → Q (some (.int 1)) M' (fj_PY t) 53 7835) :
  fj_H none 111 175 [.ref 33, .int (nI a), .int (nI n), .int (nI c), d] [.int (nI k), .int (nI c), .int (nI n), .int (nI a), .ref 33] M (fj_PY t) 53 7835 Q := by
  simp only [fs111_175, fj_PV t, fj_OB, fj_AR, fj_CI, q_zo0, q_zo1, Option.toList_some, Option.toList_none, List.cons_append, List.nil_append, true_and, and_true, true_or, if_true, if_false, q_l10, q_l01, eq_self, Int32.reduceLT, Int32.reduceLE, Int32.reduceAdd, Int32.reduceSub, fj_up_at, Nat.reduceEqDiff, false_and, and_false, and_self, reduceCtorEq, Nat.reduceAdd]
  refine m110 hn hp hc hk hP hO hg (fun M' f r1 r2 r3 => ?_) (fun M' s' r1 r2 r3 r4 r5 => ?_)
  · simp only [fs111_178, fs111_185, fs111_186, fj_OB, fj_AR, fj_CI, q_zo0, q_zo1, Option.toList_some, Option.toList_none, List.cons_append, List.nil_append, true_and, and_true, true_or, if_true, if_false, q_l10, q_l01, eq_self, Int32.reduceLT, Int32.reduceLE, Int32.reduceAdd, Int32.reduceSub, fj_up_at, Nat.reduceEqDiff, false_and, and_false, and_self, reduceCtorEq, Nat.reduceAdd]
    exact hF M' f r1 ((pRd_k n1 n2 n3).trans r2) r3
  · simp only [fs111_178, fs111_181, fs111_182, fs111_186, fj_OB, fj_AR, fj_CI, q_zo0, q_zo1, Option.toList_some, Option.toList_none, List.cons_append, List.nil_append, true_and, and_true, true_or, if_true, if_false, q_l10, q_l01, eq_self, Int32.reduceLT, Int32.reduceLE, Int32.reduceAdd, Int32.reduceSub, fj_up_at, Nat.reduceEqDiff, false_and, and_false, and_self, reduceCtorEq, Nat.reduceAdd]
    exact hG M' s' r1 ((pRd_k n1 n2 n3).trans r2) r3 r4 r5
theorem m111_rd {t : Bool} {M : fj_HM} {a n c : Nat} {s : fj_Tx} {g : Nat → Int32} {d : Value} (hn : a + n ≤ 240) (hp : pp s < 1000) (hc : c < 24) (hP : fj_PR M c s) (hO : pOk c s) (hg : ∀ p, gM M a n p = g p) {Q : fj_Po}
  (hF : ∀ M' f, fj_RF M M' → pRd g c s = .inl f → M' 33 13 = nI f → Q (some (.int 0)) M' (fj_PY t) 53 7835)
  (hG : ∀ M' s', fj_RF M M' → pRd g c s = .inr s' → fj_PR M' (c + 1) s' → pOk (c + 1) s' → pp s' ≤ pp s + 2 → Q (some (.int 1)) M' (fj_PY t) 53 7835) :
  fj_H none 111 32 [.ref 33, .int (nI a), .int (nI n), .int (nI c), d] [] M (fj_PY t) 53 7835 Q := by
  obtain ⟨h13, h16, h17, a4, a5, a6⟩ := id hP
  obtain ⟨o1, o2, o3, o4⟩ := id hO
  have o3' : ∀ m, m < pn s → pkd s m ≤ 2 ∧ per s m ≤ 5 ∧ pmc s m < c + 1 := fun m hm => by have := o3 m hm; omega
  have o4' : ∀ x, x < pq s → poc s x < c + 1 := fun x hx => by have := o4 x hx; omega
  simp only [fs111_32, fs111_33, fs111_34, fs111_35, fs111_38, fs111_40, fs111_42, fs111_44, fj_PV t, fj_OB, fj_AR, fj_CI, q_zo0, q_zo1, Option.toList_some, Option.toList_none, List.cons_append, List.nil_append, true_and, and_true, true_or, if_true, if_false, q_l10, q_l01, eq_self, Int32.reduceLT, Int32.reduceLE, Int32.reduceAdd, Int32.reduceSub, fj_up_at, Nat.reduceEqDiff, false_and, and_false, and_self, reduceCtorEq, Nat.reduceAdd, m108 hn (show pp s < 100000 by omega) h13, hg]
  by_cases h46 : g (pp s) = 46
  · rw [if_pos h46]
    simp only [fs111_47, fs111_48, fs111_51, fs111_52, fs111_54, fs111_55, fs111_56, fs111_56i, fs111_57, fs111_60, fs111_61, fs111_62, fs111_65, fs111_66, fj_PV t, fj_OB, fj_AR, fj_CI, q_zo0, q_zo1, Option.toList_some, Option.toList_none, List.cons_append, List.nil_append, true_and, and_true, true_or, if_true, if_false, q_l10, q_l01, eq_self, Int32.reduceLT, Int32.reduceLE, Int32.reduceAdd, Int32.reduceSub, fj_up_at, Nat.reduceEqDiff, false_and, and_false, and_self, reduceCtorEq, Nat.reduceAdd, h13, nI_1, q_in (show c < 24 by omega), q_clamp (show c < 100000 by omega)]
    refine hG _ (pp s + 1, pn s, pq s, fupI (pic s) c (-9), pkd s, per s, pmc s, poc s) (fj_RF_u (by omega) (fj_RF_u (by omega) (fj_RF_r M))) (by unfold pRd; rw [if_pos h46]) ?_ ⟨o1, o2, o3', o4'⟩ (Nat.le_succ _)
    refine ⟨?_, ?_, ?_, fun j hj => ?_, fun m hm => ?_, fun x hx => ?_⟩
    · simp only [fj_up_at, true_and]
      repeat (first | rw [if_neg (by omega)] | rw [if_pos (by omega)])
      rfl
    · simp only [fj_up_at, true_and]
      repeat (first | rw [if_neg (by omega)] | rw [if_pos (by omega)])
      exact h16
    · simp only [fj_up_at, true_and]
      repeat (first | rw [if_neg (by omega)] | rw [if_pos (by omega)])
      exact h17
    · show _ = fupI (pic s) c (-9) j
      simp only [fj_up_at, fupI, true_and]
      by_cases e : j = c
      · repeat (first | rw [if_neg (by omega)] | rw [if_pos (by omega)])
      · repeat (first | rw [if_neg (by omega)] | rw [if_pos (by omega)])
        exact a4 j (by omega)
    · simp only [fj_up_at, true_and]
      repeat (first | rw [if_neg (by omega)] | rw [if_pos (by omega)])
      exact a5 m hm
    · simp only [fj_up_at, true_and]
      repeat (first | rw [if_neg (by omega)] | rw [if_pos (by omega)])
      exact a6 x hx
  · rw [if_neg h46]
    simp only [fs111_67, fs111_69, fs111_71, fj_OB, fj_AR, fj_CI, q_zo0, q_zo1, Option.toList_some, Option.toList_none, List.cons_append, List.nil_append, true_and, and_true, true_or, if_true, if_false, q_l10, q_l01, eq_self, Int32.reduceLT, Int32.reduceLE, Int32.reduceAdd, Int32.reduceSub, fj_up_at, Nat.reduceEqDiff, false_and, and_false, and_self, reduceCtorEq, Nat.reduceAdd]
    have to127 : (g (pp s) = 111 → pq s = 2) → fj_H none 111 127 [.ref 33, .int (nI a), .int (nI n), .int (nI c), .int (g (pp s))] [] M (fj_PY t) 53 7835 Q := by
      intro h2
      by_cases k109 : g (pp s) = 109
      · have n2 : ¬ g (pp s) = 111 := by rw [k109]; decide
        simp only [fs111_127, fs111_129, fs111_131, fj_OB, fj_AR, fj_CI, q_zo0, q_zo1, Option.toList_some, Option.toList_none, List.cons_append, List.nil_append, true_and, and_true, true_or, if_true, if_false, q_l10, q_l01, eq_self, Int32.reduceLT, Int32.reduceLE, Int32.reduceAdd, Int32.reduceSub, fj_up_at, Nat.reduceEqDiff, false_and, and_false, and_self, reduceCtorEq, Nat.reduceAdd, k109]
        simp only [fs111_148, fs111_149, fs111_150, fs111_151, fs111_152, fs111_154, fs111_156, fs111_159, fs111_160, fj_PV t, fj_OB, fj_AR, fj_CI, q_zo0, q_zo1, Option.toList_some, Option.toList_none, List.cons_append, List.nil_append, true_and, and_true, true_or, if_true, if_false, q_l10, q_l01, eq_self, Int32.reduceLT, Int32.reduceLE, Int32.reduceAdd, Int32.reduceSub, fj_up_at, Nat.reduceEqDiff, false_and, and_false, and_self, reduceCtorEq, Nat.reduceAdd]
        exact m111_k (k := 0) hn hp hc (by decide) hP hO hg h46 n2 (by unfold pKind; rw [k109]; decide) hF hG
      · by_cases k119 : g (pp s) = 119
        · have n2 : ¬ g (pp s) = 111 := by rw [k119]; decide
          simp only [fs111_127, fs111_129, fs111_131, fs111_134, fs111_136, fs111_138, fj_OB, fj_AR, fj_CI, q_zo0, q_zo1, Option.toList_some, Option.toList_none, List.cons_append, List.nil_append, true_and, and_true, true_or, if_true, if_false, q_l10, q_l01, eq_self, Int32.reduceLT, Int32.reduceLE, Int32.reduceAdd, Int32.reduceSub, fj_up_at, Nat.reduceEqDiff, false_and, and_false, and_self, reduceCtorEq, Nat.reduceAdd, k119]
          simp only [fs111_148, fs111_149, fs111_150, fs111_151, fs111_152, fs111_154, fs111_156, fs111_163, fs111_165, fs111_167, fs111_170, fs111_171, fj_PV t, fj_OB, fj_AR, fj_CI, q_zo0, q_zo1, Option.toList_some, Option.toList_none, List.cons_append, List.nil_append, true_and, and_true, true_or, if_true, if_false, q_l10, q_l01, eq_self, Int32.reduceLT, Int32.reduceLE, Int32.reduceAdd, Int32.reduceSub, fj_up_at, Nat.reduceEqDiff, false_and, and_false, and_self, reduceCtorEq, Nat.reduceAdd]
          exact m111_k (k := 1) hn hp hc (by decide) hP hO hg h46 n2 (by unfold pKind; rw [k119]; decide) hF hG
        · by_cases k99 : g (pp s) = 99
          · have n2 : ¬ g (pp s) = 111 := by rw [k99]; decide
            simp only [fs111_127, fs111_129, fs111_131, fs111_134, fs111_136, fs111_138, fs111_141, fs111_143, fs111_145, fj_OB, fj_AR, fj_CI, q_zo0, q_zo1, Option.toList_some, Option.toList_none, List.cons_append, List.nil_append, true_and, and_true, true_or, if_true, if_false, q_l10, q_l01, eq_self, Int32.reduceLT, Int32.reduceLE, Int32.reduceAdd, Int32.reduceSub, fj_up_at, Nat.reduceEqDiff, false_and, and_false, and_self, reduceCtorEq, Nat.reduceAdd, k99]
            simp only [fs111_148, fs111_149, fs111_150, fs111_151, fs111_152, fs111_154, fs111_156, fs111_163, fs111_165, fs111_167, fs111_174, fj_PV t, fj_OB, fj_AR, fj_CI, q_zo0, q_zo1, Option.toList_some, Option.toList_none, List.cons_append, List.nil_append, true_and, and_true, true_or, if_true, if_false, q_l10, q_l01, eq_self, Int32.reduceLT, Int32.reduceLE, Int32.reduceAdd, Int32.reduceSub, fj_up_at, Nat.reduceEqDiff, false_and, and_false, and_self, reduceCtorEq, Nat.reduceAdd]
            exact m111_k (k := 2) hn hp hc (by decide) hP hO hg h46 n2 (by unfold pKind; rw [k99]; decide) hF hG
          · simp only [fs111_127, fs111_129, fs111_131, fs111_134, fs111_136, fs111_138, fs111_141, fs111_143, fs111_145, fj_OB, fj_AR, fj_CI, q_zo0, q_zo1, Option.toList_some, Option.toList_none, List.cons_append, List.nil_append, true_and, and_true, true_or, if_true, if_false, q_l10, q_l01, eq_self, Int32.reduceLT, Int32.reduceLE, Int32.reduceAdd, Int32.reduceSub, fj_up_at, Nat.reduceEqDiff, false_and, and_false, and_self, reduceCtorEq, Nat.reduceAdd, if_neg k109, if_neg k119, if_neg k99]
            simp only [fs111_185, fs111_186, fj_OB, fj_AR, fj_CI, q_zo0, q_zo1, Option.toList_some, Option.toList_none, List.cons_append, List.nil_append, true_and, and_true, true_or, if_true, if_false, q_l10, q_l01, eq_self, Int32.reduceLT, Int32.reduceLE, Int32.reduceAdd, Int32.reduceSub, fj_up_at, Nat.reduceEqDiff, false_and, and_false, and_self, reduceCtorEq, Nat.reduceAdd]
            refine hF M (pp s) (fj_RF_r M) ?_ h13
            unfold pRd
            rw [if_neg h46]
            by_cases h111 : g (pp s) = 111
            · rw [if_pos h111, if_pos (h2 h111)]
            · rw [if_neg h111]
              have : pKind (g (pp s)) = none := by unfold pKind; rw [if_neg k99, if_neg k109, if_neg k119]
              rw [this]
    by_cases h111 : g (pp s) = 111
    · rw [if_pos h111]
      have e2 : ((2 : Int32) ≤ nI (pq s)) = (2 ≤ pq s) := by rw [show (2 : Int32) = nI 2 from rfl]; exact q_le (by decide) (by omega)
      simp only [fs111_74, fs111_75, fs111_78, fs111_79, fj_PV t, fj_OB, fj_AR, fj_CI, q_zo0, q_zo1, Option.toList_some, Option.toList_none, List.cons_append, List.nil_append, true_and, and_true, true_or, if_true, if_false, q_l10, q_l01, eq_self, Int32.reduceLT, Int32.reduceLE, Int32.reduceAdd, Int32.reduceSub, fj_up_at, Nat.reduceEqDiff, false_and, and_false, and_self, reduceCtorEq, Nat.reduceAdd, h17, e2]
      by_cases hq : pq s = 2
      · rw [if_pos (by omega)]
        exact to127 (fun _ => hq)
      · rw [if_neg (by omega)]
        have e6 : (6 : Int32) + nI (pq s) = nI (6 + pq s) := by rw [show (6 : Int32) = nI 6 from rfl, nI_add]
        simp only [fs111_82, fs111_83, fs111_86, fs111_87, fs111_90, fs111_91, fs111_92, fs111_93, fs111_96, fs111_97, fs111_99, fs111_100, fs111_103, fs111_104, fs111_105, fs111_106, fs111_106i, fs111_107, fs111_110, fs111_111, fs111_112, fs111_115, fs111_116, fs111_116i, fs111_117, fs111_120, fs111_121, fs111_122, fs111_125, fs111_126, fj_PV t, fj_OB, fj_AR, fj_CI, q_zo0, q_zo1, Option.toList_some, Option.toList_none, List.cons_append, List.nil_append, true_and, and_true, true_or, if_true, if_false, q_l10, q_l01, eq_self, Int32.reduceLT, Int32.reduceLE, Int32.reduceAdd, Int32.reduceSub, fj_up_at, Nat.reduceEqDiff, false_and, and_false, and_self, reduceCtorEq, Nat.reduceAdd, h13, h17, nI_1, e6, q_in (show c < 24 by omega), q_clamp (show c < 100000 by omega), q_in (show pq s < 2 by omega), q_clamp (show pq s < 100000 by omega)]
        refine hG _ (pp s + 1, pn s, pq s + 1, fupI (pic s) c (nI (6 + pq s)), pkd s, per s, pmc s, fupN (poc s) (pq s) c) (fj_RF_u (by omega) (fj_RF_u (by omega) (fj_RF_u (by omega) (fj_RF_u (by omega) (fj_RF_r M))))) (by unfold pRd; rw [if_neg h46, if_pos h111, if_neg hq]) ?_ ⟨o1, ?_, o3', fun x hx => ?_⟩ (Nat.le_succ _)
        · refine ⟨?_, ?_, ?_, fun j hj => ?_, fun m hm => ?_, fun x hx => ?_⟩
          · simp only [fj_up_at, true_and]
            repeat (first | rw [if_neg (by omega)] | rw [if_pos (by omega)])
            rfl
          · simp only [fj_up_at, true_and]
            repeat (first | rw [if_neg (by omega)] | rw [if_pos (by omega)])
            exact h16
          · simp only [fj_up_at, true_and]
            repeat (first | rw [if_neg (by omega)] | rw [if_pos (by omega)])
            rfl
          · show _ = fupI (pic s) c (nI (6 + pq s)) j
            simp only [fj_up_at, fupI, true_and]
            by_cases e : j = c
            · repeat (first | rw [if_neg (by omega)] | rw [if_pos (by omega)])
            · repeat (first | rw [if_neg (by omega)] | rw [if_pos (by omega)])
              exact a4 j (by omega)
          · simp only [fj_up_at, true_and]
            repeat (first | rw [if_neg (by omega)] | rw [if_pos (by omega)])
            exact a5 m hm
          · have hx' : x < pq s + 1 := hx
            show _ = nI (fupN (poc s) (pq s) c x)
            simp only [fj_up_at, fupN, true_and]
            by_cases e : x = pq s
            · repeat (first | rw [if_neg (by omega)] | rw [if_pos (by omega)])
            · repeat (first | rw [if_neg (by omega)] | rw [if_pos (by omega)])
              exact a6 x (by omega)
        · show pq s + 1 ≤ 2
          omega
        · have hx' : x < pq s + 1 := hx
          show fupN (poc s) (pq s) c x < c + 1
          unfold fupN
          by_cases e : x = pq s
          · rw [if_pos e]; exact Nat.lt_succ_self c
          · rw [if_neg e]; exact o4' x (by omega)
    · rw [if_neg h111]
      exact to127 (fun z => absurd z h111)
theorem q_mul (a b : Nat) : nI a * nI b = nI (a * b) := (Int32.ofNat_mul a b).symm
theorem q_sub {a b : Nat} (h : b ≤ a) : nI a - nI b = nI (a - b) := by
  have e := nI_add (a - b) b
  rw [Nat.sub_add_cancel h] at e
  rw [← e, Int32.add_sub_cancel]
theorem q_div {a b : Nat} (ha : a < 100000) (hb : b < 100000) : nI a / nI b = nI (a / b) := by
  apply Int32.toInt_inj.mp
  have h : a / b ≤ a := Nat.div_le_self a b
  have e : (a : Int).tdiv (b : Int) = ((a / b : Nat) : Int) := by rw [Int.tdiv_eq_ediv_of_nonneg (Int.natCast_nonneg a)]; rfl
  rw [Int32.toInt_div, q_toInt ha, q_toInt hb, e]
  generalize a / b = c at h
  rw [q_toInt (by omega), Int.bmod_eq_of_le (by omega) (by omega)]
theorem q_rem {a b : Nat} (ha : a < 100000) (hb : b < 100000) : nI a - nI a / nI b * nI b = nI (a % b) := by
  rw [q_div ha hb]
  have h : a / b * b ≤ a := Nat.div_mul_le_self a b
  have e : a % b = a - a / b * b := by rw [Nat.mod_eq_sub_div_mul]
  rw [q_mul, q_sub h, e]
theorem m111 {t : Bool} {M : fj_HM} {a n c w : Nat} {s : fj_Tx} {g : Nat → Int32} (hn : a + n ≤ 240) (hp : pp s < 900) (hc : c < 24) (hw : 0 < w) (hw6 : w ≤ 6) (h15 : M 33 15 = nI w) (hP : fj_PR M c s) (hO : pOk c s) (hg : ∀ p, gM M a n p = g p) {Q : fj_Po}
  (hF : ∀ M' f, fj_RF M M' → pCell g w c s = .inl f → M' 33 13 = nI f → Q (some (.int 0)) M' (fj_PY t) 53 7835)
  (hG : ∀ M' s', fj_RF M M' → pCell g w c s = .inr s' → fj_PR M' (c + 1) s' → pOk (c + 1) s' → pp s' ≤ pp s + 3 → Q (some (.int 1)) M' (fj_PY t) 53 7835) :
  fj_H none 111 0 [.ref 33, .int (nI a), .int (nI n), .int (nI c), .null] [] M (fj_PY t) 53 7835 Q := by
  obtain ⟨h13, h16, h17, a4, a5, a6⟩ := id hP
  have ew : (nI w = 0) = False := eq_false (by rw [q_0, q_eq (by omega) (by omega)]; omega)
  have em : (nI (c % w) = 0) = (c % w = 0) := by rw [q_0]; exact q_eq (by have := Nat.mod_lt c hw; omega) (by decide)
  simp only [fs111_0, fs111_1, fs111_2, fs111_5, fs111_6, fj_PV t, fj_OB, fj_AR, fj_CI, q_zo0, q_zo1, Option.toList_some, Option.toList_none, List.cons_append, List.nil_append, true_and, and_true, true_or, if_true, if_false, q_l10, q_l01, eq_self, Int32.reduceLT, Int32.reduceLE, Int32.reduceAdd, Int32.reduceSub, fj_up_at, Nat.reduceEqDiff, false_and, and_false, and_self, reduceCtorEq, Nat.reduceAdd, h15, ew, not_false_eq_true, q_rem (show c < 100000 by omega) (show w < 100000 by omega), em]
  by_cases h0 : c % w = 0
  · rw [if_pos h0]
    simp only [fs111_9, fs111_10, fs111_11, fs111_12, fs111_15, fs111_17, fj_PV t, fj_OB, fj_AR, fj_CI, q_zo0, q_zo1, Option.toList_some, Option.toList_none, List.cons_append, List.nil_append, true_and, and_true, true_or, if_true, if_false, q_l10, q_l01, eq_self, Int32.reduceLT, Int32.reduceLE, Int32.reduceAdd, Int32.reduceSub, fj_up_at, Nat.reduceEqDiff, false_and, and_false, and_self, reduceCtorEq, Nat.reduceAdd, m108 hn (show pp s < 100000 by omega) h13, hg]
    by_cases h59 : g (pp s) = 59
    · rw [if_pos h59]
      simp only [fs111_22, fs111_23, fs111_23i, fs111_24, fs111_27, fs111_28, fs111_29, fj_PV t, fj_OB, fj_AR, fj_CI, q_zo0, q_zo1, Option.toList_some, Option.toList_none, List.cons_append, List.nil_append, true_and, and_true, true_or, if_true, if_false, q_l10, q_l01, eq_self, Int32.reduceLT, Int32.reduceLE, Int32.reduceAdd, Int32.reduceSub, fj_up_at, Nat.reduceEqDiff, false_and, and_false, and_self, reduceCtorEq, Nat.reduceAdd, h13, nI_1]
      have r1 : fj_RF M (fj_up M 33 13 (nI (pp s + 1))) := fj_RF_u (by omega) (fj_RF_r M)
      have eC : pCell g w c s = pRd g c (pp s + 1, s.2) := by unfold pCell; rw [if_pos h0, if_pos h59]
      refine m111_rd (s := (pp s + 1, s.2)) hn (show pp s + 1 < 1000 by omega) hc ?_ hO (fun p => (fj_RF_g r1 a n p).trans (hg p)) (fun M' f r2 e => hF M' f (fj_RF_t r1 r2) (eC.trans e)) (fun M' s' r2 e b1 b2 b3 => hG M' s' (fj_RF_t r1 r2) (eC.trans e) b1 b2 (by have : pp s' ≤ pp s + 1 + 2 := b3; omega))
      refine ⟨?_, ?_, ?_, fun j hj => ?_, fun m hm => ?_, fun x hx => ?_⟩
      · simp only [fj_up_at, true_and]
        repeat (first | rw [if_neg (by omega)] | rw [if_pos (by omega)])
        rfl
      · simp only [fj_up_at, true_and]
        repeat (first | rw [if_neg (by omega)] | rw [if_pos (by omega)])
        exact h16
      · simp only [fj_up_at, true_and]
        repeat (first | rw [if_neg (by omega)] | rw [if_pos (by omega)])
        exact h17
      · simp only [fj_up_at, true_and]
        repeat (first | rw [if_neg (by omega)] | rw [if_pos (by omega)])
        exact a4 j hj
      · simp only [fj_up_at, true_and]
        repeat (first | rw [if_neg (by omega)] | rw [if_pos (by omega)])
        exact a5 m hm
      · simp only [fj_up_at, true_and]
        repeat (first | rw [if_neg (by omega)] | rw [if_pos (by omega)])
        exact a6 x hx
    · rw [if_neg h59]
      simp only [fs111_20, fs111_21, fj_OB, fj_AR, fj_CI, q_zo0, q_zo1, Option.toList_some, Option.toList_none, List.cons_append, List.nil_append, true_and, and_true, true_or, if_true, if_false, q_l10, q_l01, eq_self, Int32.reduceLT, Int32.reduceLE, Int32.reduceAdd, Int32.reduceSub, fj_up_at, Nat.reduceEqDiff, false_and, and_false, and_self, reduceCtorEq, Nat.reduceAdd]
      exact hF M (pp s) (fj_RF_r M) (by unfold pCell; rw [if_pos h0, if_neg h59]) h13
  · rw [if_neg h0]
    have eC : pCell g w c s = pRd g c s := by unfold pCell; rw [if_neg h0]
    exact m111_rd hn (by omega) hc hP hO hg (fun M' f r2 e => hF M' f r2 (eC.trans e)) (fun M' s' r2 e b1 b2 b3 => hG M' s' r2 (eC.trans e) b1 b2 (by omega))
theorem pGo_nM {g : Nat → Int32} {n w : Nat} (hg : ∀ p, n ≤ p → g p = -9) : ∀ (k c : Nat) (s s' : fj_Tx), pGo g w k c s = .inr s' → k = 0 ∨ pp s' ≤ n
  | 0, c, s, s', h => Or.inl rfl
  | k + 1, c, s, s', h => by
    right
    have h2 : (match pCell g w c s with | .inl f => .inl f | .inr s1 => pGo g w k (c + 1) s1) = Sum.inr s' := h
    cases e : pCell g w c s with
    | inl f => rw [e] at h2; cases h2
    | inr s1 =>
      rw [e] at h2
      have l1 : pp s1 ≤ n := by
        unfold pCell at e
        by_cases h0 : c % w = 0
        · rw [if_pos h0] at e
          by_cases h59 : g (pp s) = 59
          · rw [if_pos h59] at e; exact pRd_n hg e
          · rw [if_neg h59] at e; cases e
        · rw [if_neg h0] at e; exact pRd_n hg e
      rcases pGo_nM hg k (c + 1) s1 s' h2 with k0 | l
      · subst k0
        have : Sum.inr s1 = (Sum.inr s' : Sum Nat fj_Tx) := h2
        cases this
        exact l1
      · exact l
theorem m112_loop {t : Bool} {a n h w : Nat} {g : Nat → Int32} (hn : a + n ≤ 240) (hh : h ≤ 4) (hw : 0 < w) (hw6 : w ≤ 6) {Q : fj_Po} : ∀ (k c : Nat) (s : fj_Tx) (M : fj_HM), k + c = h * w → M 33 14 = nI h → M 33 15 = nI w → fj_PR M c s → pOk c s → pp s ≤ 3 + 3 * c → (∀ p, gM M a n p = g p) →
  (∀ M' f, fj_RF M M' → pGo g w k c s = .inl f → M' 33 13 = nI f → Q (some (.int 0)) M' (fj_PY t) 53 7835) →
  (∀ M' s', fj_RF M M' → pGo g w k c s = .inr s' → fj_PR M' (h * w) s' → pOk (h * w) s' → pp s' ≤ 100 → Q (some (.int (bI (decide (pp s' = n))))) M' (fj_PY t) 53 7835) →
  fj_H none 112 112 [.ref 33, .int (nI a), .int (nI n), .int 1, .int (nI c)] [] M (fj_PY t) 53 7835 Q := by
  have hhw : h * w ≤ 24 := Nat.mul_le_mul hh hw6
  intro k
  induction k with
  | zero =>
    intro c s M hk h14 h15 hP hO hp hg hF hG
    have hc : c = h * w := by omega
    have e1 : (nI (h * w) ≤ nI c) = True := eq_true (by rw [q_le (by omega) (by omega)]; omega)
    have e2 : (nI (pp s) = nI n) = (pp s = n) := q_eq (by omega) (by omega)
    rw [fs112_112]
    simp only [fs112_113, fs112_116, fs112_118, fs112_119, fs112_122, fs112_123, fs112_126, fs112_127, fj_PV t, fj_OB, fj_AR, fj_CI, q_zo0, q_zo1, Option.toList_some, Option.toList_none, List.cons_append, List.nil_append, true_and, and_true, true_or, if_true, if_false, q_l10, q_l01, eq_self, Int32.reduceLT, Int32.reduceLE, Int32.reduceAdd, Int32.reduceSub, fj_up_at, Nat.reduceEqDiff, false_and, and_false, and_self, reduceCtorEq, Nat.reduceAdd, h14, h15, q_mul, e1]
    simp only [fs112_145, fs112_146, fs112_149, fs112_150, fs112_153, fs112_154, fj_PV t, fj_OB, fj_AR, fj_CI, q_zo0, q_zo1, Option.toList_some, Option.toList_none, List.cons_append, List.nil_append, true_and, and_true, true_or, if_true, if_false, q_l10, q_l01, eq_self, Int32.reduceLT, Int32.reduceLE, Int32.reduceAdd, Int32.reduceSub, fj_up_at, Nat.reduceEqDiff, false_and, and_false, and_self, reduceCtorEq, Nat.reduceAdd, hP.1, e2]
    have hG' := hG M s (fj_RF_r M) rfl (hc ▸ hP) (hc ▸ hO) (by omega)
    by_cases e : pp s = n
    · rw [if_pos e]
      rw [decide_eq_true e] at hG'
      simp only [fs112_157, fs112_158, fs112_162, fj_OB, fj_AR, fj_CI, q_zo0, q_zo1, Option.toList_some, Option.toList_none, List.cons_append, List.nil_append, true_and, and_true, true_or, if_true, if_false, q_l10, q_l01, eq_self, Int32.reduceLT, Int32.reduceLE, Int32.reduceAdd, Int32.reduceSub, fj_up_at, Nat.reduceEqDiff, false_and, and_false, and_self, reduceCtorEq, Nat.reduceAdd]
      exact hG'
    · rw [if_neg e]
      rw [decide_eq_false e] at hG'
      simp only [fs112_161, fs112_162, fj_OB, fj_AR, fj_CI, q_zo0, q_zo1, Option.toList_some, Option.toList_none, List.cons_append, List.nil_append, true_and, and_true, true_or, if_true, if_false, q_l10, q_l01, eq_self, Int32.reduceLT, Int32.reduceLE, Int32.reduceAdd, Int32.reduceSub, fj_up_at, Nat.reduceEqDiff, false_and, and_false, and_self, reduceCtorEq, Nat.reduceAdd]
      exact hG'
  | succ k ih =>
    intro c s M hk h14 h15 hP hO hp hg hF hG
    have e1 : (nI (h * w) ≤ nI c) = False := eq_false (by rw [q_le (by omega) (by omega)]; omega)
    rw [fs112_112]
    simp only [fs112_113, fs112_116, fs112_118, fs112_119, fs112_122, fs112_123, fs112_126, fs112_127, fj_PV t, fj_OB, fj_AR, fj_CI, q_zo0, q_zo1, Option.toList_some, Option.toList_none, List.cons_append, List.nil_append, true_and, and_true, true_or, if_true, if_false, q_l10, q_l01, eq_self, Int32.reduceLT, Int32.reduceLE, Int32.reduceAdd, Int32.reduceSub, fj_up_at, Nat.reduceEqDiff, false_and, and_false, and_self, reduceCtorEq, Nat.reduceAdd, h14, h15, q_mul, e1]
    simp only [fs112_130, fs112_131, fs112_132, fs112_133, fs112_135, fj_PV t, fj_OB, fj_AR, fj_CI, q_zo0, q_zo1, Option.toList_some, Option.toList_none, List.cons_append, List.nil_append, true_and, and_true, true_or, if_true, if_false, q_l10, q_l01, eq_self, Int32.reduceLT, Int32.reduceLE, Int32.reduceAdd, Int32.reduceSub, fj_up_at, Nat.reduceEqDiff, false_and, and_false, and_self, reduceCtorEq, Nat.reduceAdd]
    have eG : pGo g w (k + 1) c s = match pCell g w c s with | .inl f => .inl f | .inr s1 => pGo g w k (c + 1) s1 := rfl
    refine m111 hn (by omega) (by omega) hw hw6 h15 hP hO hg (fun M' f r e b => ?_) (fun M' s' r e b1 b2 b3 => ?_)
    · simp only [fs112_138, fs112_139, fs112_142, fj_OB, fj_AR, fj_CI, q_zo0, q_zo1, Option.toList_some, Option.toList_none, List.cons_append, List.nil_append, true_and, and_true, true_or, if_true, if_false, q_l10, q_l01, eq_self, Int32.reduceLT, Int32.reduceLE, Int32.reduceAdd, Int32.reduceSub, fj_up_at, Nat.reduceEqDiff, false_and, and_false, and_self, reduceCtorEq, Nat.reduceAdd]
      rw [fs112_112]
      simp only [fs112_113, fs112_145, fs112_146, fs112_161, fs112_162, fj_OB, fj_AR, fj_CI, q_zo0, q_zo1, Option.toList_some, Option.toList_none, List.cons_append, List.nil_append, true_and, and_true, true_or, if_true, if_false, q_l10, q_l01, eq_self, Int32.reduceLT, Int32.reduceLE, Int32.reduceAdd, Int32.reduceSub, fj_up_at, Nat.reduceEqDiff, false_and, and_false, and_self, reduceCtorEq, Nat.reduceAdd]
      exact hF M' f r (by rw [eG, e]) b
    · simp only [fs112_138, fs112_139, fs112_142, fj_OB, fj_AR, fj_CI, q_zo0, q_zo1, Option.toList_some, Option.toList_none, List.cons_append, List.nil_append, true_and, and_true, true_or, if_true, if_false, q_l10, q_l01, eq_self, Int32.reduceLT, Int32.reduceLE, Int32.reduceAdd, Int32.reduceSub, fj_up_at, Nat.reduceEqDiff, false_and, and_false, and_self, reduceCtorEq, Nat.reduceAdd, nI_1]
      rw [eG, e] at hF hG
      exact ih (c + 1) s' M' (by omega) (by rw [r.2 14 (by decide) (by decide) (by decide)]; exact h14) (by rw [r.2 15 (by decide) (by decide) (by decide)]; exact h15) b1 b2 (by omega) (fun p => (fj_RF_g r a n p).trans (hg p)) (fun M2 f r2 => hF M2 f (fj_RF_t r r2)) (fun M2 s2 r2 => hG M2 s2 (fj_RF_t r r2))
