/-! ===== the class's two loops over a text's cells ===== -/
theorem m44_go {o : Nat} (ho : o = 17 ∨ o = 25) (t : Bool) {h w n : Nat} (hn : n ≤ 60) (hw : 2 ≤ w) (hw6 : w ≤ 6) (hh : h ≤ 4) {g : Nat → Int32} {Q : fj_Po} : ∀ k : Nat,
  (∀ (r c : Nat) (s : fj_Tx) (M : fj_HM) (d7 d8 : Value), r ≤ h → c = r * w → k + c = h * w → pp s ≤ 3 + 3 * c → (∀ k, gC M n k = g k) → fj_PC o M w c c s → pOk c s →
    (∀ M' f, (∀ o', (o' < o ∨ o + 7 < o') → M' o' = M o') → pGo g w k c s = .inl f → (∀ j, j < 6 → ∃ d, d < 24 ∧ M' (o + 4) j = nI d) → f ≤ 100 → Q (some (.int (nI f))) M' (fj_PY t) 53 7835) →
    (∀ M' s' d7' d8', (∀ o', (o' < o ∨ o + 7 < o') → M' o' = M o') → pGo g w k c s = .inr s' → fj_PC o M' w (h * w) (h * w) s' → pOk (h * w) s' → pp s' ≤ 100 → fj_H none 44 149 [.ref o, .ref 16, .int (nI n), .int (nI h), .int (nI w), .int (nI (pp s')), .int (nI h), d7', d8'] [] M' (fj_PY t) 53 7835 Q) →
    fj_H none 44 71 [.ref o, .ref 16, .int (nI n), .int (nI h), .int (nI w), .int (nI (pp s)), .int (nI r), d7, d8] [] M (fj_PY t) 53 7835 Q) ∧
  (∀ (r a c : Nat) (s : fj_Tx) (M : fj_HM) (d8 : Value), r < h → a < w → c = r * w + a → k + c = h * w → pp s ≤ 4 + 3 * c → (∀ k, gC M n k = g k) → fj_PC o M w c c s → pOk c s →
    (∀ M' f, (∀ o', (o' < o ∨ o + 7 < o') → M' o' = M o') → pGoR g w k c s = .inl f → (∀ j, j < 6 → ∃ d, d < 24 ∧ M' (o + 4) j = nI d) → f ≤ 100 → Q (some (.int (nI f))) M' (fj_PY t) 53 7835) →
    (∀ M' s' d7' d8', (∀ o', (o' < o ∨ o + 7 < o') → M' o' = M o') → pGoR g w k c s = .inr s' → fj_PC o M' w (h * w) (h * w) s' → pOk (h * w) s' → pp s' ≤ 100 → fj_H none 44 149 [.ref o, .ref 16, .int (nI n), .int (nI h), .int (nI w), .int (nI (pp s')), .int (nI h), d7', d8'] [] M' (fj_PY t) 53 7835 Q) →
    fj_H none 44 98 [.ref o, .ref 16, .int (nI n), .int (nI h), .int (nI w), .int (nI (pp s)), .int (nI r), .int (nI a), d8] [] M (fj_PY t) 53 7835 Q) := by
  have hhw : h * w ≤ 24 := Nat.mul_le_mul hh hw6
  intro k
  induction k with
  | zero =>
    refine ⟨fun r c s M d7 d8 hr hc hk hp hg hP hO hF hG => ?_, fun r a c s M d8 hr ha hc hk hp hg hP hO hF hG => ?_⟩
    · have hrh : r = h := Nat.eq_of_mul_eq_mul_right (show 0 < w by omega) (show r * w = h * w by omega)
      subst hrh
      subst hc
      rw [fs44_71]
      simp only [fs44_73, fs44_74, fj_OB, fj_AR, fj_CI, q_zo0, q_zo1, Option.toList_some, Option.toList_none, List.cons_append, List.nil_append, true_and, and_true, true_or, if_true, if_false, q_l10, q_l01, eq_self, Int32.reduceLT, Int32.reduceLE, Int32.reduceAdd, Int32.reduceSub, fj_up_at, Nat.reduceEqDiff, false_and, and_false, and_self, reduceCtorEq, Nat.reduceAdd, q_le (show r < 100000 by omega) (show r < 100000 by omega), if_pos (Nat.le_refl r)]
      exact hG M s d7 d8 (fun _ _ => rfl) rfl hP hO (by omega)
    · exfalso
      have := Nat.mul_le_mul_right w (show r + 1 ≤ h by omega)
      rw [Nat.succ_mul] at this
      omega
  | succ k ih =>
    obtain ⟨ihA, ihB⟩ := ih
    have hB : ∀ (r a c : Nat) (s : fj_Tx) (M : fj_HM) (d8 : Value), r < h → a < w → c = r * w + a → k + 1 + c = h * w → pp s ≤ 4 + 3 * c → (∀ k, gC M n k = g k) → fj_PC o M w c c s → pOk c s →
        (∀ M' f, (∀ o', (o' < o ∨ o + 7 < o') → M' o' = M o') → pGoR g w (k + 1) c s = .inl f → (∀ j, j < 6 → ∃ d, d < 24 ∧ M' (o + 4) j = nI d) → f ≤ 100 → Q (some (.int (nI f))) M' (fj_PY t) 53 7835) →
        (∀ M' s' d7' d8', (∀ o', (o' < o ∨ o + 7 < o') → M' o' = M o') → pGoR g w (k + 1) c s = .inr s' → fj_PC o M' w (h * w) (h * w) s' → pOk (h * w) s' → pp s' ≤ 100 → fj_H none 44 149 [.ref o, .ref 16, .int (nI n), .int (nI h), .int (nI w), .int (nI (pp s')), .int (nI h), d7', d8'] [] M' (fj_PY t) 53 7835 Q) →
        fj_H none 44 98 [.ref o, .ref 16, .int (nI n), .int (nI h), .int (nI w), .int (nI (pp s)), .int (nI r), .int (nI a), d8] [] M (fj_PY t) 53 7835 Q := by
      intro r a c s M d8 hr ha hc hk hp hg hP hO hF hG
      have hc24 : c < 24 := by omega
      rw [fs44_98]
      simp only [fs44_100, fs44_102, fj_OB, fj_AR, fj_CI, q_zo0, q_zo1, Option.toList_some, Option.toList_none, List.cons_append, List.nil_append, true_and, and_true, true_or, if_true, if_false, q_l10, q_l01, eq_self, Int32.reduceLT, Int32.reduceLE, Int32.reduceAdd, Int32.reduceSub, fj_up_at, Nat.reduceEqDiff, false_and, and_false, and_self, reduceCtorEq, Nat.reduceAdd, q_le (show w < 100000 by omega) (show a < 100000 by omega), if_neg (show ¬ w ≤ a by omega)]
      simp only [fs44_105, fs44_106, fs44_107, fs44_108, fs44_110, fj_YO ho t, fj_OB, fj_AR, fj_CI, q_zo0, q_zo1, Option.toList_some, Option.toList_none, List.cons_append, List.nil_append, true_and, and_true, true_or, if_true, if_false, q_l10, q_l01, eq_self, Int32.reduceLT, Int32.reduceLE, Int32.reduceAdd, Int32.reduceSub, fj_up_at, Nat.reduceEqDiff, false_and, and_false, and_self, reduceCtorEq, Nat.reduceAdd]
      refine m47 ho t hn hc24 (by omega) hg hP hO (fun M1 s1 f1 e1 p1 o1 l1 => ?_) (fun M1 f f1 e1 b1 l1 => ?_)
      · have e0 : c / w = r := by rw [hc, Nat.mul_comm, Nat.mul_add_div (by omega), Nat.div_eq_of_lt ha]; rfl
        have em : c % w = a := by rw [hc, Nat.mul_comm, Nat.mul_add_mod, Nat.mod_eq_of_lt ha]
        have pA := fj_PC_add ho p1
        rw [e0, em] at pA
        have fr2 : ∀ o', (o' < o ∨ o + 7 < o') → fj_up (fj_up (fj_up M1 (o + 6) c (nI r)) (o + 7) c (nI a)) o 0 (nI (c + 1)) o' = M o' := fun o' h' => by
          rw [← f1 o' h']
          funext j
          rw [fj_up_at, if_neg (by omega), fj_up_at, if_neg (by omega), fj_up_at, if_neg (by omega)]
        have hg2 : ∀ k, gC (fj_up (fj_up (fj_up M1 (o + 6) c (nI r)) (o + 7) c (nI a)) o 0 (nI (c + 1))) n k = g k := fun k => by rw [← hg k]; unfold gC; rw [fr2 16 (by omega)]
        have eR : pGoR g w (k + 1) c s = pGo g w k (c + 1) s1 := by
          show (match pRd g c s with | .inl f => _ | .inr s' => _) = _
          rw [e1]
        have e00 : (0 : Int32) ≤ nI (pp s1) := by rw [q_0, q_le (by omega) (by omega)]; omega
        rw [eR] at hF hG
        simp only [fs44_113, fs44_115, fs44_117, fj_OB, fj_AR, fj_CI, q_zo0, q_zo1, Option.toList_some, Option.toList_none, List.cons_append, List.nil_append, true_and, and_true, true_or, if_true, if_false, q_l10, q_l01, eq_self, Int32.reduceLT, Int32.reduceLE, Int32.reduceAdd, Int32.reduceSub, fj_up_at, Nat.reduceEqDiff, false_and, and_false, and_self, reduceCtorEq, Nat.reduceAdd, if_pos e00]
        simp only [fs44_125, fs44_126, fs44_128, fs44_130, fs44_133, fs44_135, fs44_137, fs44_140, fj_YO ho t, fj_OB, fj_AR, fj_CI, q_zo0, q_zo1, Option.toList_some, Option.toList_none, List.cons_append, List.nil_append, true_and, and_true, true_or, if_true, if_false, q_l10, q_l01, eq_self, Int32.reduceLT, Int32.reduceLE, Int32.reduceAdd, Int32.reduceSub, fj_up_at, Nat.reduceEqDiff, false_and, and_false, and_self, reduceCtorEq, Nat.reduceAdd, m51 ho t hc24 p1.1, nI_1]
        by_cases ha1 : a + 1 < w
        · have hm : ¬ (c + 1) % w = 0 := by
            rw [hc, show r * w + a + 1 = w * r + (a + 1) by rw [Nat.mul_comm]; omega, Nat.mul_add_mod, Nat.mod_eq_of_lt ha1]
            omega
          have hk1 : ∃ k', k = k' + 1 := ⟨k - 1, by
            have := Nat.mul_le_mul_right w (show r + 1 ≤ h by omega)
            rw [Nat.succ_mul] at this
            omega⟩
          obtain ⟨k', rfl⟩ := hk1
          rw [pGo_in hm] at hF hG
          exact ihB r (a + 1) (c + 1) s1 _ _ hr ha1 (by omega) (by omega) (by omega) hg2 pA o1 (fun M' f g1 => hF M' f (fun o' h' => by rw [g1 o' h', fr2 o' h'])) (fun M' s' d7' d8' g1 => hG M' s' d7' d8' (fun o' h' => by rw [g1 o' h', fr2 o' h']))
        · have haw : a + 1 = w := by omega
          rw [fs44_98]
          simp only [fs44_100, fs44_102, fj_OB, fj_AR, fj_CI, q_zo0, q_zo1, Option.toList_some, Option.toList_none, List.cons_append, List.nil_append, true_and, and_true, true_or, if_true, if_false, q_l10, q_l01, eq_self, Int32.reduceLT, Int32.reduceLE, Int32.reduceAdd, Int32.reduceSub, fj_up_at, Nat.reduceEqDiff, false_and, and_false, and_self, reduceCtorEq, Nat.reduceAdd, q_le (show w < 100000 by omega) (show a + 1 < 100000 by omega), if_pos (show w ≤ a + 1 by omega)]
          simp only [fs44_143, fs44_146, fj_OB, fj_AR, fj_CI, q_zo0, q_zo1, Option.toList_some, Option.toList_none, List.cons_append, List.nil_append, true_and, and_true, true_or, if_true, if_false, q_l10, q_l01, eq_self, Int32.reduceLT, Int32.reduceLE, Int32.reduceAdd, Int32.reduceSub, fj_up_at, Nat.reduceEqDiff, false_and, and_false, and_self, reduceCtorEq, Nat.reduceAdd, nI_1]
          exact ihA (r + 1) (c + 1) s1 _ _ _ hr (by rw [Nat.succ_mul]; omega) (by omega) (by omega) hg2 pA o1 (fun M' f g1 => hF M' f (fun o' h' => by rw [g1 o' h', fr2 o' h'])) (fun M' s' d7' d8' g1 => hG M' s' d7' d8' (fun o' h' => by rw [g1 o' h', fr2 o' h']))
      · have hneg : ¬ (0 : Int32) ≤ -1 - nI f := by
          rw [Int32.le_iff_toInt_le, Int32.toInt_sub, q_toInt (by omega)]
          have a1 : (-1 : Int32).toInt = -1 := rfl
          have a0 : (0 : Int32).toInt = 0 := rfl
          rw [a1, a0, Int.bmod_eq_of_le (by omega) (by omega)]
          omega
        have hbk : (-1 : Int32) - (-1 - nI f) = nI f := by
          apply Int32.toInt_inj.mp
          rw [Int32.toInt_sub, Int32.toInt_sub, q_toInt (by omega)]
          have a1 : (-1 : Int32).toInt = -1 := rfl
          rw [a1, Int.bmod_eq_of_le (n := -1 - (f : Int)) (by omega) (by omega), Int.bmod_eq_of_le (by omega) (by omega)]
          omega
        simp only [fs44_113, fs44_115, fs44_117, fj_OB, fj_AR, fj_CI, q_zo0, q_zo1, Option.toList_some, Option.toList_none, List.cons_append, List.nil_append, true_and, and_true, true_or, if_true, if_false, q_l10, q_l01, eq_self, Int32.reduceLT, Int32.reduceLE, Int32.reduceAdd, Int32.reduceSub, fj_up_at, Nat.reduceEqDiff, false_and, and_false, and_self, reduceCtorEq, Nat.reduceAdd, if_neg hneg]
        simp only [fs44_120, fs44_121, fs44_123, fs44_124, fj_OB, fj_AR, fj_CI, q_zo0, q_zo1, Option.toList_some, Option.toList_none, List.cons_append, List.nil_append, true_and, and_true, true_or, if_true, if_false, q_l10, q_l01, eq_self, Int32.reduceLT, Int32.reduceLE, Int32.reduceAdd, Int32.reduceSub, fj_up_at, Nat.reduceEqDiff, false_and, and_false, and_self, reduceCtorEq, Nat.reduceAdd, hbk]
        refine hF M1 f f1 ?_ b1 (by omega)
        show (match pRd g c s with | .inl f => _ | .inr s' => _) = _
        rw [e1]
    refine ⟨fun r c s M d7 d8 hr hc hk hp hg hP hO hF hG => ?_, hB⟩
    have hrh : r < h := by
      rcases Nat.lt_or_ge r h with h1 | h1
      · exact h1
      · exfalso
        have := Nat.mul_le_mul_right w h1
        omega
    have hm : c % w = 0 := by rw [hc, Nat.mul_mod_left]
    rw [fs44_71]
    simp only [fs44_73, fs44_74, fj_OB, fj_AR, fj_CI, q_zo0, q_zo1, Option.toList_some, Option.toList_none, List.cons_append, List.nil_append, true_and, and_true, true_or, if_true, if_false, q_l10, q_l01, eq_self, Int32.reduceLT, Int32.reduceLE, Int32.reduceAdd, Int32.reduceSub, fj_up_at, Nat.reduceEqDiff, false_and, and_false, and_self, reduceCtorEq, Nat.reduceAdd, q_le (show h < 100000 by omega) (show r < 100000 by omega), if_neg (show ¬ h ≤ r by omega)]
    simp only [fs44_77, fs44_78, fs44_79, fs44_81, fs44_84, fs44_86, fj_OB, fj_AR, fj_CI, q_zo0, q_zo1, Option.toList_some, Option.toList_none, List.cons_append, List.nil_append, true_and, and_true, true_or, if_true, if_false, q_l10, q_l01, eq_self, Int32.reduceLT, Int32.reduceLE, Int32.reduceAdd, Int32.reduceSub, fj_up_at, Nat.reduceEqDiff, false_and, and_false, and_self, reduceCtorEq, Nat.reduceAdd, m46 hn (show pp s < 100000 by omega), hg]
    by_cases h59 : g (pp s) = 59
    · rw [if_pos h59]
      simp only [fs44_92, fs44_95, fs44_96, fj_OB, fj_AR, fj_CI, q_zo0, q_zo1, Option.toList_some, Option.toList_none, List.cons_append, List.nil_append, true_and, and_true, true_or, if_true, if_false, q_l10, q_l01, eq_self, Int32.reduceLT, Int32.reduceLE, Int32.reduceAdd, Int32.reduceSub, fj_up_at, Nat.reduceEqDiff, false_and, and_false, and_self, reduceCtorEq, Nat.reduceAdd, nI_1]
      rw [pGo_at hm h59] at hF hG
      exact hB r 0 c (pp s + 1, s.2) M _ hrh (by omega) (by omega) hk (show pp s + 1 ≤ 4 + 3 * c by omega) hg hP hO hF hG
    · rw [if_neg h59]
      simp only [fs44_89, fs44_91, fj_OB, fj_AR, fj_CI, q_zo0, q_zo1, Option.toList_some, Option.toList_none, List.cons_append, List.nil_append, true_and, and_true, true_or, if_true, if_false, q_l10, q_l01, eq_self, Int32.reduceLT, Int32.reduceLE, Int32.reduceAdd, Int32.reduceSub, fj_up_at, Nat.reduceEqDiff, false_and, and_false, and_self, reduceCtorEq, Nat.reduceAdd]
      exact hF M (pp s) (fun _ _ => rfl) (pGo_no hm h59) hP.2.2.2.2.2.2.2.2.2.2 (by omega)
