/-! ===== pairs: copy ===== -/
theorem m155_l1 {t : Bool} {k i n : Nat} (hk : 60 * k + i + n ≤ 240) (hn : n ≤ 60) {a3 a4 : Value} {Q : fj_Po} : ∀ (r x : Nat) (M : fj_HM), x + r = n → (∀ M', (∀ o, o ≠ 52 → M' o = M o) → (∀ y, y < x → M' 52 y = M 52 y) → (∀ y, x ≤ y → y < n → M' 52 y = M 51 (60 * k + i + y)) → fj_H none 155 141 [.ref 33, .int (nI k), .int (nI i), a3, a4, .int (nI n), .int (nI n)] [] M' (fj_PY t) 53 7835 Q) → fj_H none 155 107 [.ref 33, .int (nI k), .int (nI i), a3, a4, .int (nI n), .int (nI x)] [] M (fj_PY t) 53 7835 Q := by
  intro r
  induction r with
  | zero =>
    intro x M hx hQ
    rw [fs155_107]
    simp only [fs155_109, fs155_111, fj_OB, fj_AR, fj_CI, q_zo0, q_zo1, Option.toList_some, Option.toList_none, List.cons_append, List.nil_append, true_and, and_true, true_or, if_true, if_false, q_l10, q_l01, eq_self, Int32.reduceLT, Int32.reduceLE, Int32.reduceAdd, Int32.reduceSub, fj_up_at, Nat.reduceEqDiff, false_and, and_false, and_self, reduceCtorEq, Nat.reduceAdd, q_le (show n < 100000 by omega) (show x < 100000 by omega), eq_true (show n ≤ x by omega)]
    have hxn : x = n := by omega
    subst hxn
    exact hQ M (fun _ _ => rfl) (fun _ _ => rfl) (fun y h1 h2 => absurd h2 (by omega))
  | succ r ih =>
    intro x M hx hQ
    have e60 : (60 : Int32) * nI k + nI i + nI x = nI (60 * k + i + x) := by rw [show (60 : Int32) = nI 60 from rfl, q_mul, nI_add, nI_add]
    rw [fs155_107]
    simp only [fs155_109, fs155_111, fj_OB, fj_AR, fj_CI, q_zo0, q_zo1, Option.toList_some, Option.toList_none, List.cons_append, List.nil_append, true_and, and_true, true_or, if_true, if_false, q_l10, q_l01, eq_self, Int32.reduceLT, Int32.reduceLE, Int32.reduceAdd, Int32.reduceSub, fj_up_at, Nat.reduceEqDiff, false_and, and_false, and_self, reduceCtorEq, Nat.reduceAdd, q_le (show n < 100000 by omega) (show x < 100000 by omega), eq_false (show ¬ n ≤ x by omega)]
    simp only [fs155_114, fs155_115, fs155_118, fs155_120, fs155_121, fs155_124, fs155_126, fs155_127, fs155_128, fs155_129, fs155_130, fs155_132, fs155_133, fs155_134, fs155_135, fs155_138, fj_PV t, fj_OB, fj_AR, fj_CI, q_zo0, q_zo1, Option.toList_some, Option.toList_none, List.cons_append, List.nil_append, true_and, and_true, true_or, if_true, if_false, q_l10, q_l01, eq_self, Int32.reduceLT, Int32.reduceLE, Int32.reduceAdd, Int32.reduceSub, fj_up_at, Nat.reduceEqDiff, false_and, and_false, and_self, reduceCtorEq, Nat.reduceAdd, e60, q_in (show 60 * k + i + x < 240 by omega), q_clamp (show 60 * k + i + x < 100000 by omega), q_in (show x < 60 by omega), q_clamp (show x < 100000 by omega), nI_1]
    refine ih (x + 1) _ (by omega) (fun M' h1 h2 h3 => hQ M' (fun o ho => by rw [h1 o ho]; (funext j; simp only [fj_up_at]; repeat (rw [if_neg (by omega)]))) (fun y hy => by rw [h2 y (by omega)]; (simp only [fj_up_at]; repeat (first | rw [if_neg (by omega)] | rw [if_pos (by omega)]))) (fun y hy1 hy2 => ?_))
    by_cases ey : y = x
    · rw [ey, h2 x (by omega), fj_up_at, if_pos ⟨rfl, rfl⟩]
    · rw [h3 y (by omega) hy2]
      (simp only [fj_up_at]; repeat (first | rw [if_neg (by omega)] | rw [if_pos (by omega)]))
theorem m155_l2 {t : Bool} {k j n : Nat} (hk : 60 * k + j + n ≤ 240) (hn : n ≤ 60) {a1 a2 : Value} {Q : fj_Po} : ∀ (r x : Nat) (M : fj_HM), x + r = n → (∀ M', (∀ o, o ≠ 51 → M' o = M o) → (∀ y, M' 51 y = if 60 * k + j + x ≤ y ∧ y < 60 * k + j + n then M 52 (y - (60 * k + j)) else M 51 y) → fj_H none 155 179 [.ref 33, a1, a2, .int (nI k), .int (nI j), .int (nI n), .int (nI n)] [] M' (fj_PY t) 53 7835 Q) → fj_H none 155 144 [.ref 33, a1, a2, .int (nI k), .int (nI j), .int (nI n), .int (nI x)] [] M (fj_PY t) 53 7835 Q := by
  intro r
  induction r with
  | zero =>
    intro x M hx hQ
    rw [fs155_144]
    simp only [fs155_146, fs155_148, fj_OB, fj_AR, fj_CI, q_zo0, q_zo1, Option.toList_some, Option.toList_none, List.cons_append, List.nil_append, true_and, and_true, true_or, if_true, if_false, q_l10, q_l01, eq_self, Int32.reduceLT, Int32.reduceLE, Int32.reduceAdd, Int32.reduceSub, fj_up_at, Nat.reduceEqDiff, false_and, and_false, and_self, reduceCtorEq, Nat.reduceAdd, q_le (show n < 100000 by omega) (show x < 100000 by omega), eq_true (show n ≤ x by omega)]
    have hxn : x = n := by omega
    subst hxn
    exact hQ M (fun _ _ => rfl) (fun y => by rw [if_neg (by omega)])
  | succ r ih =>
    intro x M hx hQ
    have e60 : (60 : Int32) * nI k + nI j + nI x = nI (60 * k + j + x) := by rw [show (60 : Int32) = nI 60 from rfl, q_mul, nI_add, nI_add]
    rw [fs155_144]
    simp only [fs155_146, fs155_148, fj_OB, fj_AR, fj_CI, q_zo0, q_zo1, Option.toList_some, Option.toList_none, List.cons_append, List.nil_append, true_and, and_true, true_or, if_true, if_false, q_l10, q_l01, eq_self, Int32.reduceLT, Int32.reduceLE, Int32.reduceAdd, Int32.reduceSub, fj_up_at, Nat.reduceEqDiff, false_and, and_false, and_self, reduceCtorEq, Nat.reduceAdd, q_le (show n < 100000 by omega) (show x < 100000 by omega), eq_false (show ¬ n ≤ x by omega)]
    simp only [fs155_151, fs155_152, fs155_155, fs155_157, fs155_158, fs155_159, fs155_161, fs155_162, fs155_164, fs155_165, fs155_166, fs155_169, fs155_171, fs155_172, fs155_173, fs155_176, fj_PV t, fj_OB, fj_AR, fj_CI, q_zo0, q_zo1, Option.toList_some, Option.toList_none, List.cons_append, List.nil_append, true_and, and_true, true_or, if_true, if_false, q_l10, q_l01, eq_self, Int32.reduceLT, Int32.reduceLE, Int32.reduceAdd, Int32.reduceSub, fj_up_at, Nat.reduceEqDiff, false_and, and_false, and_self, reduceCtorEq, Nat.reduceAdd, e60, q_in (show 60 * k + j + x < 240 by omega), q_clamp (show 60 * k + j + x < 100000 by omega), q_in (show x < 60 by omega), q_clamp (show x < 100000 by omega), nI_1]
    refine ih (x + 1) _ (by omega) (fun M' h1 h2 => hQ M' (fun o ho => by rw [h1 o ho]; (funext j; simp only [fj_up_at]; repeat (rw [if_neg (by omega)]))) (fun y => ?_))
    rw [h2 y]
    by_cases ey : y = 60 * k + j + x
    · rw [if_neg (by omega), if_pos (by omega), ey, fj_up_at, if_pos ⟨rfl, rfl⟩, Nat.add_sub_cancel_left]
    · by_cases e2 : 60 * k + j + x ≤ y ∧ y < 60 * k + j + n
      · rw [if_pos (by omega), if_pos e2]
        (simp only [fj_up_at]; repeat (first | rw [if_neg (by omega)] | rw [if_pos (by omega)]))
      · rw [if_neg (by omega), if_neg e2]
        (simp only [fj_up_at]; repeat (first | rw [if_neg (by omega)] | rw [if_pos (by omega)]))
theorem pr_copy {t : Bool} {M : fj_HM} (h : fj_Iv t M) (v w v2 w2 x : Int32) : fj_pr isI t M 84 [.ref 0, .int v, .int w, .int v2, .int w2, .int x] 155 [.ref 33, .int v, .int w, .int v2, .int w2, .int x, .null] := by
  obtain ⟨A, R, h⟩ := h
  have hS := h.2.2.2.2.2.2.1
  have hy := yo_or t
  unfold fj_pr
  rcases q_place (n := 4) (by omega) v with e | ⟨e, e'⟩ | ⟨k, hk, rfl, e, e'⟩
  · simp only [fs84_0, fs84_1, fs84_2, fs84_5, fs84_6, fs84_9, fs84_19, fs84_20, fs155_0, fs155_1, fs155_4, fs155_14, fs155_15, fs155_16, fs155_19, m19, m148, m102, fj_PV t, fj_OB, fj_AR, fj_CI, q_zo0, q_zo1, Option.toList_some, Option.toList_none, List.cons_append, List.nil_append, true_and, and_true, true_or, if_true, if_false, q_l10, q_l01, eq_self, Int32.reduceLT, Int32.reduceLE, Int32.reduceAdd, Int32.reduceSub, fj_up_at, Nat.reduceEqDiff, false_and, and_false, and_self, reduceCtorEq, Nat.reduceAdd, e]
    exact fj_fin_i (fj_In_f h _) _
  · simp only [fs84_0, fs84_1, fs84_2, fs84_5, fs84_6, fs84_9, fs84_19, fs84_20, fs155_0, fs155_1, fs155_4, fs155_14, fs155_15, fs155_16, fs155_19, m19, m148, m102, fj_PV t, fj_OB, fj_AR, fj_CI, q_zo0, q_zo1, Option.toList_some, Option.toList_none, List.cons_append, List.nil_append, true_and, and_true, true_or, if_true, if_false, q_l10, q_l01, eq_self, Int32.reduceLT, Int32.reduceLE, Int32.reduceAdd, Int32.reduceSub, fj_up_at, Nat.reduceEqDiff, false_and, and_false, and_self, reduceCtorEq, Nat.reduceAdd, e, show ((4 : Int32) ≤ v) = True from e', e']
    exact fj_fin_i (fj_In_f h _) _
  · have e'' : ((4 : Int32) ≤ nI k) = False := e'
    rcases q_place (n := 4) (by omega) v2 with f | ⟨f, f'⟩ | ⟨k2, hk2, rfl, f, f'⟩
    · simp only [fs84_0, fs84_1, fs84_2, fs84_5, fs84_6, fs84_9, fs84_12, fs84_13, fs84_16, fs84_19, fs84_20, fs155_0, fs155_1, fs155_4, fs155_7, fs155_8, fs155_11, fs155_14, fs155_15, fs155_16, fs155_19, m19, m148, m102, fj_PV t, fj_OB, fj_AR, fj_CI, q_zo0, q_zo1, Option.toList_some, Option.toList_none, List.cons_append, List.nil_append, true_and, and_true, true_or, if_true, if_false, q_l10, q_l01, eq_self, Int32.reduceLT, Int32.reduceLE, Int32.reduceAdd, Int32.reduceSub, fj_up_at, Nat.reduceEqDiff, false_and, and_false, and_self, reduceCtorEq, Nat.reduceAdd, e, e', e'', f]
      exact fj_fin_i (fj_In_f h _) _
    · simp only [fs84_0, fs84_1, fs84_2, fs84_5, fs84_6, fs84_9, fs84_12, fs84_13, fs84_16, fs84_19, fs84_20, fs155_0, fs155_1, fs155_4, fs155_7, fs155_8, fs155_11, fs155_14, fs155_15, fs155_16, fs155_19, m19, m148, m102, fj_PV t, fj_OB, fj_AR, fj_CI, q_zo0, q_zo1, Option.toList_some, Option.toList_none, List.cons_append, List.nil_append, true_and, and_true, true_or, if_true, if_false, q_l10, q_l01, eq_self, Int32.reduceLT, Int32.reduceLE, Int32.reduceAdd, Int32.reduceSub, fj_up_at, Nat.reduceEqDiff, false_and, and_false, and_self, reduceCtorEq, Nat.reduceAdd, e, e', e'', f, show ((4 : Int32) ≤ v2) = True from f', f']
      exact fj_fin_i (fj_In_f h _) _
    · have f'' : ((4 : Int32) ≤ nI k2) = False := f'
      rcases hS k hk with ⟨s1, s2, s3⟩ | ⟨n, l, hn, hl, s1, s2, s3, s4, s5⟩
      · simp only [fs84_0, fs84_1, fs84_2, fs84_5, fs84_6, fs84_9, fs84_12, fs84_13, fs84_16, fs84_21, fs84_22, fs84_25, fs84_26, fs84_29, fs84_43, fs84_44, fs84_45, fs84_48, fs155_0, fs155_1, fs155_4, fs155_7, fs155_8, fs155_11, fs155_20, fs155_21, fs155_24, fs155_25, fs155_26, fs155_38, fs155_39, fs155_40, fs155_43, m19, m148, m95, m103, m21 hk, fj_PV t, fj_OB, fj_AR, fj_CI, q_zo0, q_zo1, Option.toList_some, Option.toList_none, List.cons_append, List.nil_append, true_and, and_true, true_or, if_true, if_false, q_l10, q_l01, eq_self, Int32.reduceLT, Int32.reduceLE, Int32.reduceAdd, Int32.reduceSub, fj_up_at, Nat.reduceEqDiff, false_and, and_false, and_self, reduceCtorEq, Nat.reduceAdd, e, e', e'', f, f', f'', s2, s1, q_in hk, q_clamp (show k < 100000 by omega), k_m1, fj_up_up]
        exact fj_fin_i (fj_In_f h _) _
      · rcases hS k2 hk2 with ⟨r1, r2, r3⟩ | ⟨n2, l2, hn2, hl2, r1, r2, r3, r4, r5⟩
        · simp only [fs84_0, fs84_1, fs84_2, fs84_5, fs84_6, fs84_9, fs84_12, fs84_13, fs84_16, fs84_21, fs84_22, fs84_25, fs84_26, fs84_29, fs84_32, fs84_33, fs84_36, fs84_37, fs84_40, fs84_43, fs84_44, fs84_45, fs84_48, fs155_0, fs155_1, fs155_4, fs155_7, fs155_8, fs155_11, fs155_20, fs155_21, fs155_24, fs155_25, fs155_26, fs155_29, fs155_30, fs155_33, fs155_34, fs155_35, fs155_38, fs155_39, fs155_40, fs155_43, m19, m148, m95, m103, m21 hk, m21 hk2, fj_PV t, fj_OB, fj_AR, fj_CI, q_zo0, q_zo1, Option.toList_some, Option.toList_none, List.cons_append, List.nil_append, true_and, and_true, true_or, if_true, if_false, q_l10, q_l01, eq_self, Int32.reduceLT, Int32.reduceLE, Int32.reduceAdd, Int32.reduceSub, fj_up_at, Nat.reduceEqDiff, false_and, and_false, and_self, reduceCtorEq, Nat.reduceAdd, e, e', e'', f, f', f'', s3, s1, r2, r1, q_lane hl, q_in hk, q_clamp (show k < 100000 by omega), q_in hk2, q_clamp (show k2 < 100000 by omega), k_m1, k_sz (show n < 1000 by omega), fj_up_up]
          exact fj_fin_i (fj_In_f h _) _
        · have ll : (nI l = nI l2) = (l = l2) := q_eq (by omega) (by omega)
          by_cases hll : l = l2
          · have z4 : fj_up M 0 9 0 4 k = nI n := s2
            have z42 : fj_up M 0 9 0 4 k2 = nI n2 := r2
            by_cases g : sgN n w x
            · by_cases g2 : sgN n2 w2 x
              · obtain ⟨i, a, rfl, rfl, hia⟩ := g
                obtain ⟨j, b, rfl, eb, hjb⟩ := g2
                rw [q_eq (by omega) (by omega)] at eb
                subst eb
                simp only [fs84_0, fs84_1, fs84_2, fs84_5, fs84_6, fs84_9, fs84_12, fs84_13, fs84_16, fs84_21, fs84_22, fs84_25, fs84_26, fs84_29, fs84_32, fs84_33, fs84_36, fs84_37, fs84_40, fs84_49, fs84_50, fs84_53, fs84_54, fs84_55, fs84_58, fs84_67, fs84_68, fs84_71, fs84_72, fs84_73, fs84_75, fs84_78, fs84_81, fs84_82, fs84_85, fs84_86, fs84_88, fs84_90, fs84_93, fs84_102, fs84_103, fs84_106, fs84_107, fs84_108, fs84_109, fs84_111, fs84_113, fs84_116, fs84_118, m19, m21 hk, m21 hk2, m22 hk hk2, m25y hk (show n < 1000 by omega) z4 hia, m25y hk2 (show n2 < 1000 by omega) z42 hjb, m31 (show 60 * k + i + a ≤ 240 by omega) (show 60 * k2 + j + a ≤ 240 by omega), fj_PV t, fj_OB, fj_AR, fj_CI, q_zo0, q_zo1, Option.toList_some, Option.toList_none, List.cons_append, List.nil_append, true_and, and_true, true_or, if_true, if_false, q_l10, q_l01, eq_self, Int32.reduceLT, Int32.reduceLE, Int32.reduceAdd, Int32.reduceSub, fj_up_at, Nat.reduceEqDiff, false_and, and_false, and_self, reduceCtorEq, Nat.reduceAdd, e, e'', f, f'', s3, r3, q_lane hl, q_lane hl2, ll, hll]
                have C : ∀ o j', fj_cy (fj_up M 0 9 0) 2 2 (60 * k + i) (60 * k2 + j) a o j' = if o = 2 ∧ 60 * k2 + j ≤ j' ∧ j' < 60 * k2 + j + a then M 2 (60 * k + i + (j' - (60 * k2 + j))) else fj_up M 0 9 0 o j' := fun o j' => by
                  unfold fj_cy
                  by_cases hc : o = 2 ∧ 60 * k2 + j ≤ j' ∧ j' < 60 * k2 + j + a
                  · rw [if_pos hc, if_pos hc, fj_up_at, if_neg (by omega)]
                  · rw [if_neg hc, if_neg hc]
                have C2 : ∀ o, o ≠ 2 → o ≠ 0 → fj_cy (fj_up M 0 9 0) 2 2 (60 * k + i) (60 * k2 + j) a o = M o := fun o h1 h2 => by
                  funext j'
                  rw [C, if_neg (by omega), fj_up_at, if_neg (by omega)]
                simp only [fs155_0, fs155_1, fs155_4, fs155_7, fs155_8, fs155_11, fs155_20, fs155_21, fs155_24, fs155_25, fs155_26, fs155_29, fs155_30, fs155_33, fs155_34, fs155_35, fs155_44, fs155_45, fs155_48, fs155_49, fs155_50, fs155_51, fs155_54, fs155_55, fs155_56, fs155_65, fs155_66, fs155_68, fs155_69, fs155_70, fs155_73, fs155_74, fs155_75, fs155_78, fs155_81, fs155_83, fs155_85, fs155_86, fs155_87, fs155_90, fs155_91, fs155_92, fs155_95, fs155_104, fs155_105, m148, fj_PV t, fj_OB, fj_AR, fj_CI, q_zo0, q_zo1, Option.toList_some, Option.toList_none, List.cons_append, List.nil_append, true_and, and_true, true_or, if_true, if_false, q_l10, q_l01, eq_self, Int32.reduceLT, Int32.reduceLE, Int32.reduceAdd, Int32.reduceSub, fj_up_at, Nat.reduceEqDiff, false_and, and_false, and_self, reduceCtorEq, Nat.reduceAdd, e, e', f, f', C2 49 (by decide) (by decide), C2 50 (by decide) (by decide), s1, r1, s4, r4, ll, hll, q_in hk, q_clamp (show k < 100000 by omega), q_in hk2, q_clamp (show k2 < 100000 by omega), k_sz (show n < 1000 by omega), k_sz (show n2 < 1000 by omega), m154y (show n < 1000 by omega) hia, m154y (show n2 < 1000 by omega) hjb]
                refine m155_l1 (show 60 * k + i + a ≤ 240 by omega) (show a ≤ 60 by omega) a 0 _ (by omega) (fun M1 p1 p2 p3 => ?_)
                simp only [fs155_141, fs155_142, fj_OB, fj_AR, fj_CI, q_zo0, q_zo1, Option.toList_some, Option.toList_none, List.cons_append, List.nil_append, true_and, and_true, true_or, if_true, if_false, q_l10, q_l01, eq_self, Int32.reduceLT, Int32.reduceLE, Int32.reduceAdd, Int32.reduceSub, fj_up_at, Nat.reduceEqDiff, false_and, and_false, and_self, reduceCtorEq, Nat.reduceAdd]
                refine m155_l2 (show 60 * k2 + j + a ≤ 240 by omega) (show a ≤ 60 by omega) a 0 _ (by omega) (fun M2 u1 u2 => ?_)
                simp only [fs155_179, fs155_180, fs155_182, fs155_185, m102, fj_PV t, fj_OB, fj_AR, fj_CI, q_zo0, q_zo1, Option.toList_some, Option.toList_none, List.cons_append, List.nil_append, true_and, and_true, true_or, if_true, if_false, q_l10, q_l01, eq_self, Int32.reduceLT, Int32.reduceLE, Int32.reduceAdd, Int32.reduceSub, fj_up_at, Nat.reduceEqDiff, false_and, and_false, and_self, reduceCtorEq, Nat.reduceAdd]
                have D51 : ∀ y, M2 51 y = if 60 * k2 + j ≤ y ∧ y < 60 * k2 + j + a then M 51 (60 * k + i + (y - (60 * k2 + j))) else M 51 y := fun y => by
                  rw [u2 y]
                  by_cases hc : 60 * k2 + j ≤ y ∧ y < 60 * k2 + j + a
                  · rw [if_pos (by omega), if_pos hc, p3 _ (by omega) (by omega), C2 51 (by decide) (by decide)]
                  · rw [if_neg (by omega), if_neg hc, p1 51 (by decide), C2 51 (by decide) (by decide)]
                have D : ∀ o, o ≠ 2 → o ≠ 0 → o ≠ 51 → o ≠ 52 → M2 o = M o := fun o h1 h2 h3 h4 => by rw [u1 o h3, p1 o h4, C2 o h1 h2]
                have D2 : ∀ y, M2 2 y = if 60 * k2 + j ≤ y ∧ y < 60 * k2 + j + a then M 2 (60 * k + i + (y - (60 * k2 + j))) else M 2 y := fun y => by
                  rw [u1 2 (by decide), p1 2 (by decide), C]
                  by_cases hc : 60 * k2 + j ≤ y ∧ y < 60 * k2 + j + a
                  · rw [if_pos ⟨rfl, hc⟩, if_pos hc]
                  · rw [if_neg (by omega), if_neg hc, fj_up_at, if_neg (by omega)]
                have D0 : ∀ y, M2 0 y = fj_up M 0 9 0 0 y := fun y => by rw [u1 0 (by decide), p1 0 (by decide), C, if_neg (by omega)]
                refine fj_fin_i (fj_In_s h (fun o ho => ?_) (fun k' hk' => ?_) ?_ ?_ (fun k' hk' => ?_)) _
                · funext y
                  rw [fj_up_at, if_neg (by omega), D o (by omega) (by omega) (by omega) (by omega)]
                · rw [fj_up_at, if_neg (by omega), D 33 (by decide) (by decide) (by decide) (by decide)]
                · rw [fj_up_at, if_neg (by omega), fj_up_at, if_neg (by omega), D0, D 33 (by decide) (by decide) (by decide) (by decide), fj_up_at, if_neg (by omega)]
                  exact h.2.2.2.2.2.2.2.2.1
                · rw [fj_up_at, if_neg (by omega), fj_up_at, if_pos ⟨rfl, rfl⟩, D0, fj_up_at, if_pos ⟨rfl, rfl⟩]
                · have G : ∀ o, o ≠ 33 → fj_up M2 33 0 0 o = M2 o := fun o ho => by
                    funext y
                    rw [fj_up_at, if_neg (by omega)]
                  unfold fj_S1
                  rw [G 49 (by decide), G 3 (by decide), G 4 (by decide), G 50 (by decide), G 2 (by decide), G 51 (by decide), D 49 (by decide) (by decide) (by decide) (by decide), D 3 (by decide) (by decide) (by decide) (by decide), D 4 (by decide) (by decide) (by decide) (by decide), D 50 (by decide) (by decide) (by decide) (by decide)]
                  rcases hS k' hk' with ⟨b1, b2, b3⟩ | ⟨m, l', hm, hl', b1, b2, b3, b4, b5⟩
                  · exact Or.inl ⟨b1, b2, b3⟩
                  · refine Or.inr ⟨m, l', hm, hl', b1, b2, b3, b4, fun y hy => ?_⟩
                    rw [D2, D51]
                    by_cases hc : 60 * k2 + j ≤ 60 * k' + y ∧ 60 * k' + y < 60 * k2 + j + a
                    · rw [if_pos hc, if_pos hc, Nat.add_assoc]
                      exact s5 _ (by omega)
                    · rw [if_neg hc, if_neg hc]
                      exact b5 y hy
              · obtain ⟨i, a, rfl, rfl, hia⟩ := g
                simp only [fs84_0, fs84_1, fs84_2, fs84_5, fs84_6, fs84_9, fs84_12, fs84_13, fs84_16, fs84_21, fs84_22, fs84_25, fs84_26, fs84_29, fs84_32, fs84_33, fs84_36, fs84_37, fs84_40, fs84_49, fs84_50, fs84_53, fs84_54, fs84_55, fs84_58, fs84_67, fs84_68, fs84_71, fs84_72, fs84_73, fs84_75, fs84_78, fs84_81, fs84_82, fs84_85, fs84_86, fs84_88, fs84_90, fs84_93, fs84_96, fs84_97, fs84_98, fs84_101, m19, m95, m21 hk, m21 hk2, m22 hk hk2, m25y hk (show n < 1000 by omega) z4 hia, m25n hk2 (show n2 < 1000 by omega) z42 g2, fj_PV t, fj_OB, fj_AR, fj_CI, q_zo0, q_zo1, Option.toList_some, Option.toList_none, List.cons_append, List.nil_append, true_and, and_true, true_or, if_true, if_false, q_l10, q_l01, eq_self, Int32.reduceLT, Int32.reduceLE, Int32.reduceAdd, Int32.reduceSub, fj_up_at, Nat.reduceEqDiff, false_and, and_false, and_self, reduceCtorEq, Nat.reduceAdd, e, e'', f, f'', s3, r3, q_lane hl, q_lane hl2, ll, hll, fj_up_up]
                simp only [fs155_0, fs155_1, fs155_4, fs155_7, fs155_8, fs155_11, fs155_20, fs155_21, fs155_24, fs155_25, fs155_26, fs155_29, fs155_30, fs155_33, fs155_34, fs155_35, fs155_44, fs155_45, fs155_48, fs155_49, fs155_50, fs155_51, fs155_54, fs155_55, fs155_56, fs155_65, fs155_66, fs155_68, fs155_69, fs155_70, fs155_73, fs155_74, fs155_75, fs155_78, fs155_81, fs155_83, fs155_85, fs155_86, fs155_87, fs155_90, fs155_91, fs155_92, fs155_95, fs155_98, fs155_99, fs155_100, fs155_103, m103, m148, fj_PV t, fj_OB, fj_AR, fj_CI, q_zo0, q_zo1, Option.toList_some, Option.toList_none, List.cons_append, List.nil_append, true_and, and_true, true_or, if_true, if_false, q_l10, q_l01, eq_self, Int32.reduceLT, Int32.reduceLE, Int32.reduceAdd, Int32.reduceSub, fj_up_at, Nat.reduceEqDiff, false_and, and_false, and_self, reduceCtorEq, Nat.reduceAdd, e, e', f, f', s1, r1, s4, r4, ll, hll, q_in hk, q_clamp (show k < 100000 by omega), q_in hk2, q_clamp (show k2 < 100000 by omega), k_sz (show n < 1000 by omega), k_sz (show n2 < 1000 by omega), m154y (show n < 1000 by omega) hia, m154n (show n2 < 1000 by omega) g2]
                exact fj_fin_i (fj_In_f h _) _
            · simp only [fs84_0, fs84_1, fs84_2, fs84_5, fs84_6, fs84_9, fs84_12, fs84_13, fs84_16, fs84_21, fs84_22, fs84_25, fs84_26, fs84_29, fs84_32, fs84_33, fs84_36, fs84_37, fs84_40, fs84_49, fs84_50, fs84_53, fs84_54, fs84_55, fs84_58, fs84_67, fs84_68, fs84_71, fs84_72, fs84_73, fs84_75, fs84_78, fs84_96, fs84_97, fs84_98, fs84_101, m19, m95, m21 hk, m21 hk2, m22 hk hk2, m25n hk (show n < 1000 by omega) z4 g, fj_PV t, fj_OB, fj_AR, fj_CI, q_zo0, q_zo1, Option.toList_some, Option.toList_none, List.cons_append, List.nil_append, true_and, and_true, true_or, if_true, if_false, q_l10, q_l01, eq_self, Int32.reduceLT, Int32.reduceLE, Int32.reduceAdd, Int32.reduceSub, fj_up_at, Nat.reduceEqDiff, false_and, and_false, and_self, reduceCtorEq, Nat.reduceAdd, e, e'', f, f'', s3, r3, q_lane hl, q_lane hl2, ll, hll, fj_up_up]
              simp only [fs155_0, fs155_1, fs155_4, fs155_7, fs155_8, fs155_11, fs155_20, fs155_21, fs155_24, fs155_25, fs155_26, fs155_29, fs155_30, fs155_33, fs155_34, fs155_35, fs155_44, fs155_45, fs155_48, fs155_49, fs155_50, fs155_51, fs155_54, fs155_55, fs155_56, fs155_65, fs155_66, fs155_68, fs155_69, fs155_70, fs155_73, fs155_74, fs155_75, fs155_78, fs155_98, fs155_99, fs155_100, fs155_103, m103, m148, fj_PV t, fj_OB, fj_AR, fj_CI, q_zo0, q_zo1, Option.toList_some, Option.toList_none, List.cons_append, List.nil_append, true_and, and_true, true_or, if_true, if_false, q_l10, q_l01, eq_self, Int32.reduceLT, Int32.reduceLE, Int32.reduceAdd, Int32.reduceSub, fj_up_at, Nat.reduceEqDiff, false_and, and_false, and_self, reduceCtorEq, Nat.reduceAdd, e, e', f, f', s1, r1, s4, r4, ll, hll, q_in hk, q_clamp (show k < 100000 by omega), q_in hk2, q_clamp (show k2 < 100000 by omega), k_sz (show n < 1000 by omega), k_sz (show n2 < 1000 by omega), m154n (show n < 1000 by omega) g]
              exact fj_fin_i (fj_In_f h _) _
          · simp only [fs84_0, fs84_1, fs84_2, fs84_5, fs84_6, fs84_9, fs84_12, fs84_13, fs84_16, fs84_21, fs84_22, fs84_25, fs84_26, fs84_29, fs84_32, fs84_33, fs84_36, fs84_37, fs84_40, fs84_49, fs84_50, fs84_53, fs84_54, fs84_55, fs84_58, fs84_61, fs84_62, fs84_63, fs84_66, m19, m95, m21 hk, m21 hk2, m22 hk hk2, fj_PV t, fj_OB, fj_AR, fj_CI, q_zo0, q_zo1, Option.toList_some, Option.toList_none, List.cons_append, List.nil_append, true_and, and_true, true_or, if_true, if_false, q_l10, q_l01, eq_self, Int32.reduceLT, Int32.reduceLE, Int32.reduceAdd, Int32.reduceSub, fj_up_at, Nat.reduceEqDiff, false_and, and_false, and_self, reduceCtorEq, Nat.reduceAdd, e, e'', f, f'', s3, r3, q_lane hl, q_lane hl2, ll, hll, fj_up_up]
            simp only [fs155_0, fs155_1, fs155_4, fs155_7, fs155_8, fs155_11, fs155_20, fs155_21, fs155_24, fs155_25, fs155_26, fs155_29, fs155_30, fs155_33, fs155_34, fs155_35, fs155_44, fs155_45, fs155_48, fs155_49, fs155_50, fs155_51, fs155_54, fs155_55, fs155_56, fs155_59, fs155_60, fs155_61, fs155_64, m103, m148, fj_PV t, fj_OB, fj_AR, fj_CI, q_zo0, q_zo1, Option.toList_some, Option.toList_none, List.cons_append, List.nil_append, true_and, and_true, true_or, if_true, if_false, q_l10, q_l01, eq_self, Int32.reduceLT, Int32.reduceLE, Int32.reduceAdd, Int32.reduceSub, fj_up_at, Nat.reduceEqDiff, false_and, and_false, and_self, reduceCtorEq, Nat.reduceAdd, e, e', f, f', s1, r1, s4, r4, ll, hll, q_in hk, q_clamp (show k < 100000 by omega), q_in hk2, q_clamp (show k2 < 100000 by omega), k_sz (show n < 1000 by omega), k_sz (show n2 < 1000 by omega)]
            exact fj_fin_i (fj_In_f h _) _
