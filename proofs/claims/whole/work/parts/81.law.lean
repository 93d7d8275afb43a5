/-! ===== the law, call by call ===== -/
theorem pr_use {ok : Option Value → Prop} {t : Bool} {M : fj_HM} {y1 : Nat} {l1 : List Value} {y2 : Nat} {l2 : List Value} (h : fj_pr ok t M y1 l1 y2 l2) {Qc : fj_Po} (k : ∀ r M1 P1, ok r → fj_H none y2 0 l2 [] M1 P1 53 7835 (fj_fin ok r) → Qc r M1 P1 53 7835) : fj_H none y1 0 l1 [] M (fj_PY t) 53 7835 Qc := by
  refine fj_H_mono h (fun r M1 P1 c1 z1 ⟨e1, e2, e3⟩ => ?_)
  subst e1
  subst e2
  refine k r M1 P1 ?_ e3
  obtain ⟨n, q, hq, hf⟩ := e3
  exact hf.2.2.2.1
theorem pr_doze0 {t : Bool} {M : fj_HM} (h : fj_Iv t M) (v : Int32) : fj_pr isI t M 65 [.ref 0, .int v, .int 0] 122 [.ref 33, .int v, .int 0, .null] := pr_doze h v false
theorem pr_doze1 {t : Bool} {M : fj_HM} (h : fj_Iv t M) (v : Int32) : fj_pr isI t M 65 [.ref 0, .int v, .int 1] 122 [.ref 33, .int v, .int 1, .null] := pr_doze h v true
theorem pr_reading0 {t : Bool} {M : fj_HM} (h : fj_Iv t M) (v w : Int32) : fj_pr isI t M 74 [.ref 0, .int v, .int w, .int 0] 141 [.ref 33, .int v, .int w, .int 0] := pr_reading h v w false
theorem pr_reading1 {t : Bool} {M : fj_HM} (h : fj_Iv t M) (v w : Int32) : fj_pr isI t M 74 [.ref 0, .int v, .int w, .int 1] 141 [.ref 33, .int v, .int w, .int 1] := pr_reading h v w true
/-- what comes after a call -/
def lwN (L : Nat) (xs : Nat → Int32) (i : Nat) (Q : fj_Po) : Prop := ∀ t' M', fj_Iv t' M' → fj_H (some (L, xs)) 165 18 [.float 0, .ref 0, .ref 33, .int (nI (i + 6))] [] M' (fj_PY t') 53 7835 Q
theorem k_i (i : Nat) : nI i + 1 = nI (i + 1) ∧ nI i + 2 = nI (i + 2) ∧ nI i + 3 = nI (i + 3) ∧ nI i + 4 = nI (i + 4) ∧ nI i + 5 = nI (i + 5) ∧ nI i + 6 = nI (i + 6) := ⟨nI_add i 1, nI_add i 2, nI_add i 3, nI_add i 4, nI_add i 5, nI_add i 6⟩
theorem law_0 {L : Nat} {xs : Nat → Int32} {i : Nat} (hi : i + 6 ≤ L) (hL : L ≤ 3072) {t : Bool} {M : fj_HM} (h : fj_Iv t M) {Q : fj_Po} (nx : lwN L xs i Q) : fj_H (some (L, xs)) 165 172 [.float 0, .ref 0, .ref 33, .int (nI i)] [] M (fj_PY t) 53 7835 Q := by
  simp only [fs165_172, fs165_173, fs165_174, fs165_175, fs165_176, fs165_177, fs165_178, fs165_179, fs165_180, fs165_181, fs165_182, fs165_183, fs165_184, fs165_185, fs165_186, fs165_187, fs165_188, fs165_189, fs165_190, fs165_191, fs165_192, fs165_193, fj_OB, fj_AR, fj_CI, q_zo0, q_zo1, Option.toList_some, Option.toList_none, List.cons_append, List.nil_append, true_and, and_true, true_or, if_true, if_false, q_l10, q_l01, eq_self, Int32.reduceLT, Int32.reduceLE, Int32.reduceAdd, Int32.reduceSub, fj_up_at, Nat.reduceEqDiff, false_and, and_false, and_self, reduceCtorEq, Nat.reduceAdd, k_i i, q_in (show i + 1 < L by omega), q_clamp (show i + 1 < 100000 by omega), q_in (show i + 2 < L by omega), q_clamp (show i + 2 < 100000 by omega), q_in (show i + 3 < L by omega), q_clamp (show i + 3 < 100000 by omega), q_in (show i + 4 < L by omega), q_clamp (show i + 4 < 100000 by omega)]
  refine pr_use (pr_yard h (xs (i + 1)) (xs (i + 2)) (xs (i + 3)) (xs (i + 4))) (fun r M1 P1 ok e3 => ?_)
  obtain ⟨w, rfl⟩ := ok
  simp only [fs165_196, fs165_197, fs165_198, fs165_199, fs165_200, fs165_201, fs165_202, fs165_203, fs165_204, fs165_205, fs165_206, fs165_207, fs165_208, fs165_209, fs165_210, fs165_211, fs165_212, fs165_213, fs165_214, fs165_215, fs165_216, fs165_217, fj_OB, fj_AR, fj_CI, q_zo0, q_zo1, Option.toList_some, Option.toList_none, List.cons_append, List.nil_append, true_and, and_true, true_or, if_true, if_false, q_l10, q_l01, eq_self, Int32.reduceLT, Int32.reduceLE, Int32.reduceAdd, Int32.reduceSub, fj_up_at, Nat.reduceEqDiff, false_and, and_false, and_self, reduceCtorEq, Nat.reduceAdd, k_i i, q_in (show i + 1 < L by omega), q_clamp (show i + 1 < 100000 by omega), q_in (show i + 2 < L by omega), q_clamp (show i + 2 < 100000 by omega), q_in (show i + 3 < L by omega), q_clamp (show i + 3 < 100000 by omega), q_in (show i + 4 < L by omega), q_clamp (show i + 4 < 100000 by omega)]
  refine fj_H_mono e3 (fun r2 M2 P2 c2 z2 ⟨f1, f2, f3, f4, t2, f5, f6⟩ => ?_)
  subst f1
  subst f2
  subst f3
  subst f5
  simp only [fs165_220, fs165_1129, fs165_1132, fj_OB, fj_AR, fj_CI, q_zo0, q_zo1, Option.toList_some, Option.toList_none, List.cons_append, List.nil_append, true_and, and_true, true_or, if_true, if_false, q_l10, q_l01, eq_self, Int32.reduceLT, Int32.reduceLE, Int32.reduceAdd, Int32.reduceSub, fj_up_at, Nat.reduceEqDiff, false_and, and_false, and_self, reduceCtorEq, Nat.reduceAdd, k_i i]
  exact nx t2 M2 f6
theorem law_1 {L : Nat} {xs : Nat → Int32} {i : Nat} (hi : i + 6 ≤ L) (hL : L ≤ 3072) {t : Bool} {M : fj_HM} (h : fj_Iv t M) {Q : fj_Po} (nx : lwN L xs i Q) : fj_H (some (L, xs)) 165 225 [.float 0, .ref 0, .ref 33, .int (nI i)] [] M (fj_PY t) 53 7835 Q := by
  simp only [fs165_225, fs165_226, fs165_227, fs165_228, fs165_229, fs165_230, fs165_231, fj_OB, fj_AR, fj_CI, q_zo0, q_zo1, Option.toList_some, Option.toList_none, List.cons_append, List.nil_append, true_and, and_true, true_or, if_true, if_false, q_l10, q_l01, eq_self, Int32.reduceLT, Int32.reduceLE, Int32.reduceAdd, Int32.reduceSub, fj_up_at, Nat.reduceEqDiff, false_and, and_false, and_self, reduceCtorEq, Nat.reduceAdd, k_i i, q_in (show i + 1 < L by omega), q_clamp (show i + 1 < 100000 by omega)]
  refine pr_use (pr_inside h (xs (i + 1))) (fun r M1 P1 ok e3 => ?_)
  obtain ⟨w, rfl⟩ := ok
  simp only [fs165_234, fs165_235, fs165_236, fs165_237, fs165_238, fs165_239, fs165_240, fj_OB, fj_AR, fj_CI, q_zo0, q_zo1, Option.toList_some, Option.toList_none, List.cons_append, List.nil_append, true_and, and_true, true_or, if_true, if_false, q_l10, q_l01, eq_self, Int32.reduceLT, Int32.reduceLE, Int32.reduceAdd, Int32.reduceSub, fj_up_at, Nat.reduceEqDiff, false_and, and_false, and_self, reduceCtorEq, Nat.reduceAdd, k_i i, q_in (show i + 1 < L by omega), q_clamp (show i + 1 < 100000 by omega)]
  refine fj_H_mono e3 (fun r2 M2 P2 c2 z2 ⟨f1, f2, f3, f4, t2, f5, f6⟩ => ?_)
  subst f1
  subst f2
  subst f3
  subst f5
  simp only [fs165_243, fs165_1129, fs165_1132, fj_OB, fj_AR, fj_CI, q_zo0, q_zo1, Option.toList_some, Option.toList_none, List.cons_append, List.nil_append, true_and, and_true, true_or, if_true, if_false, q_l10, q_l01, eq_self, Int32.reduceLT, Int32.reduceLE, Int32.reduceAdd, Int32.reduceSub, fj_up_at, Nat.reduceEqDiff, false_and, and_false, and_self, reduceCtorEq, Nat.reduceAdd, k_i i]
  exact nx t2 M2 f6
theorem law_2 {L : Nat} {xs : Nat → Int32} {i : Nat} (hi : i + 6 ≤ L) (hL : L ≤ 3072) {t : Bool} {M : fj_HM} (h : fj_Iv t M) {Q : fj_Po} (nx : lwN L xs i Q) : fj_H (some (L, xs)) 165 248 [.float 0, .ref 0, .ref 33, .int (nI i)] [] M (fj_PY t) 53 7835 Q := by
  simp only [fs165_248, fs165_249, fs165_250, fs165_251, fs165_252, fs165_253, fs165_254, fs165_255, fs165_256, fs165_257, fs165_258, fs165_259, fj_OB, fj_AR, fj_CI, q_zo0, q_zo1, Option.toList_some, Option.toList_none, List.cons_append, List.nil_append, true_and, and_true, true_or, if_true, if_false, q_l10, q_l01, eq_self, Int32.reduceLT, Int32.reduceLE, Int32.reduceAdd, Int32.reduceSub, fj_up_at, Nat.reduceEqDiff, false_and, and_false, and_self, reduceCtorEq, Nat.reduceAdd, k_i i, q_in (show i + 1 < L by omega), q_clamp (show i + 1 < 100000 by omega), q_in (show i + 2 < L by omega), q_clamp (show i + 2 < 100000 by omega)]
  refine pr_use (pr_ofMan h (xs (i + 1)) (xs (i + 2))) (fun r M1 P1 ok e3 => ?_)
  obtain ⟨w, rfl⟩ := ok
  simp only [fs165_262, fs165_263, fs165_264, fs165_265, fs165_266, fs165_267, fs165_268, fs165_269, fs165_270, fs165_271, fs165_272, fs165_273, fj_OB, fj_AR, fj_CI, q_zo0, q_zo1, Option.toList_some, Option.toList_none, List.cons_append, List.nil_append, true_and, and_true, true_or, if_true, if_false, q_l10, q_l01, eq_self, Int32.reduceLT, Int32.reduceLE, Int32.reduceAdd, Int32.reduceSub, fj_up_at, Nat.reduceEqDiff, false_and, and_false, and_self, reduceCtorEq, Nat.reduceAdd, k_i i, q_in (show i + 1 < L by omega), q_clamp (show i + 1 < 100000 by omega), q_in (show i + 2 < L by omega), q_clamp (show i + 2 < 100000 by omega)]
  refine fj_H_mono e3 (fun r2 M2 P2 c2 z2 ⟨f1, f2, f3, f4, t2, f5, f6⟩ => ?_)
  subst f1
  subst f2
  subst f3
  subst f5
  simp only [fs165_276, fs165_1129, fs165_1132, fj_OB, fj_AR, fj_CI, q_zo0, q_zo1, Option.toList_some, Option.toList_none, List.cons_append, List.nil_append, true_and, and_true, true_or, if_true, if_false, q_l10, q_l01, eq_self, Int32.reduceLT, Int32.reduceLE, Int32.reduceAdd, Int32.reduceSub, fj_up_at, Nat.reduceEqDiff, false_and, and_false, and_self, reduceCtorEq, Nat.reduceAdd, k_i i]
  exact nx t2 M2 f6
theorem law_3 {L : Nat} {xs : Nat → Int32} {i : Nat} (hi : i + 6 ≤ L) (hL : L ≤ 3072) {t : Bool} {M : fj_HM} (h : fj_Iv t M) {Q : fj_Po} (nx : lwN L xs i Q) : fj_H (some (L, xs)) 165 281 [.float 0, .ref 0, .ref 33, .int (nI i)] [] M (fj_PY t) 53 7835 Q := by
  simp only [fs165_281, fs165_282, fs165_283, fs165_284, fs165_285, fs165_286, fs165_287, fs165_288, fs165_289, fs165_290, fs165_291, fs165_292, fj_OB, fj_AR, fj_CI, q_zo0, q_zo1, Option.toList_some, Option.toList_none, List.cons_append, List.nil_append, true_and, and_true, true_or, if_true, if_false, q_l10, q_l01, eq_self, Int32.reduceLT, Int32.reduceLE, Int32.reduceAdd, Int32.reduceSub, fj_up_at, Nat.reduceEqDiff, false_and, and_false, and_self, reduceCtorEq, Nat.reduceAdd, k_i i, q_in (show i + 1 < L by omega), q_clamp (show i + 1 < 100000 by omega), q_in (show i + 2 < L by omega), q_clamp (show i + 2 < 100000 by omega)]
  refine pr_use (pr_far h (xs (i + 1)) (xs (i + 2))) (fun r M1 P1 ok e3 => ?_)
  obtain ⟨w, rfl⟩ := ok
  simp only [fs165_295, fs165_296, fs165_297, fs165_298, fs165_299, fs165_300, fs165_301, fs165_302, fs165_303, fs165_304, fs165_305, fs165_306, fj_OB, fj_AR, fj_CI, q_zo0, q_zo1, Option.toList_some, Option.toList_none, List.cons_append, List.nil_append, true_and, and_true, true_or, if_true, if_false, q_l10, q_l01, eq_self, Int32.reduceLT, Int32.reduceLE, Int32.reduceAdd, Int32.reduceSub, fj_up_at, Nat.reduceEqDiff, false_and, and_false, and_self, reduceCtorEq, Nat.reduceAdd, k_i i, q_in (show i + 1 < L by omega), q_clamp (show i + 1 < 100000 by omega), q_in (show i + 2 < L by omega), q_clamp (show i + 2 < 100000 by omega)]
  refine fj_H_mono e3 (fun r2 M2 P2 c2 z2 ⟨f1, f2, f3, f4, t2, f5, f6⟩ => ?_)
  subst f1
  subst f2
  subst f3
  subst f5
  simp only [fs165_309, fs165_1129, fs165_1132, fj_OB, fj_AR, fj_CI, q_zo0, q_zo1, Option.toList_some, Option.toList_none, List.cons_append, List.nil_append, true_and, and_true, true_or, if_true, if_false, q_l10, q_l01, eq_self, Int32.reduceLT, Int32.reduceLE, Int32.reduceAdd, Int32.reduceSub, fj_up_at, Nat.reduceEqDiff, false_and, and_false, and_self, reduceCtorEq, Nat.reduceAdd, k_i i]
  exact nx t2 M2 f6
theorem law_4 {L : Nat} {xs : Nat → Int32} {i : Nat} (hi : i + 6 ≤ L) (hL : L ≤ 3072) {t : Bool} {M : fj_HM} (h : fj_Iv t M) {Q : fj_Po} (nx : lwN L xs i Q) : fj_H (some (L, xs)) 165 314 [.float 0, .ref 0, .ref 33, .int (nI i)] [] M (fj_PY t) 53 7835 Q := by
  simp only [fs165_314, fs165_315, fs165_316, fs165_317, fs165_318, fs165_319, fs165_320, fj_OB, fj_AR, fj_CI, q_zo0, q_zo1, Option.toList_some, Option.toList_none, List.cons_append, List.nil_append, true_and, and_true, true_or, if_true, if_false, q_l10, q_l01, eq_self, Int32.reduceLT, Int32.reduceLE, Int32.reduceAdd, Int32.reduceSub, fj_up_at, Nat.reduceEqDiff, false_and, and_false, and_self, reduceCtorEq, Nat.reduceAdd, k_i i, q_in (show i + 1 < L by omega), q_clamp (show i + 1 < 100000 by omega)]
  refine pr_use (pr_can h (xs (i + 1))) (fun r M1 P1 ok e3 => ?_)
  obtain ⟨w, rfl⟩ := ok
  simp only [fs165_323, fs165_324, fs165_325, fs165_326, fs165_327, fs165_328, fs165_329, fj_OB, fj_AR, fj_CI, q_zo0, q_zo1, Option.toList_some, Option.toList_none, List.cons_append, List.nil_append, true_and, and_true, true_or, if_true, if_false, q_l10, q_l01, eq_self, Int32.reduceLT, Int32.reduceLE, Int32.reduceAdd, Int32.reduceSub, fj_up_at, Nat.reduceEqDiff, false_and, and_false, and_self, reduceCtorEq, Nat.reduceAdd, k_i i, q_in (show i + 1 < L by omega), q_clamp (show i + 1 < 100000 by omega)]
  refine fj_H_mono e3 (fun r2 M2 P2 c2 z2 ⟨f1, f2, f3, f4, t2, f5, f6⟩ => ?_)
  subst f1
  subst f2
  subst f3
  subst f5
  simp only [fs165_332, fs165_1129, fs165_1132, fj_OB, fj_AR, fj_CI, q_zo0, q_zo1, Option.toList_some, Option.toList_none, List.cons_append, List.nil_append, true_and, and_true, true_or, if_true, if_false, q_l10, q_l01, eq_self, Int32.reduceLT, Int32.reduceLE, Int32.reduceAdd, Int32.reduceSub, fj_up_at, Nat.reduceEqDiff, false_and, and_false, and_self, reduceCtorEq, Nat.reduceAdd, k_i i]
  exact nx t2 M2 f6
theorem law_5 {L : Nat} {xs : Nat → Int32} {i : Nat} (hi : i + 6 ≤ L) (hL : L ≤ 3072) {t : Bool} {M : fj_HM} (h : fj_Iv t M) {Q : fj_Po} (nx : lwN L xs i Q) : fj_H (some (L, xs)) 165 337 [.float 0, .ref 0, .ref 33, .int (nI i)] [] M (fj_PY t) 53 7835 Q := by
  simp only [fs165_337, fs165_338, fs165_339, fs165_340, fs165_341, fs165_342, fs165_343, fj_OB, fj_AR, fj_CI, q_zo0, q_zo1, Option.toList_some, Option.toList_none, List.cons_append, List.nil_append, true_and, and_true, true_or, if_true, if_false, q_l10, q_l01, eq_self, Int32.reduceLT, Int32.reduceLE, Int32.reduceAdd, Int32.reduceSub, fj_up_at, Nat.reduceEqDiff, false_and, and_false, and_self, reduceCtorEq, Nat.reduceAdd, k_i i, q_in (show i + 1 < L by omega), q_clamp (show i + 1 < 100000 by omega)]
  refine pr_use (pr_delay h (xs (i + 1))) (fun r M1 P1 ok e3 => ?_)
  obtain ⟨w, rfl⟩ := ok
  simp only [fs165_346, fs165_347, fs165_348, fs165_349, fs165_350, fs165_351, fs165_352, fj_OB, fj_AR, fj_CI, q_zo0, q_zo1, Option.toList_some, Option.toList_none, List.cons_append, List.nil_append, true_and, and_true, true_or, if_true, if_false, q_l10, q_l01, eq_self, Int32.reduceLT, Int32.reduceLE, Int32.reduceAdd, Int32.reduceSub, fj_up_at, Nat.reduceEqDiff, false_and, and_false, and_self, reduceCtorEq, Nat.reduceAdd, k_i i, q_in (show i + 1 < L by omega), q_clamp (show i + 1 < 100000 by omega)]
  refine fj_H_mono e3 (fun r2 M2 P2 c2 z2 ⟨f1, f2, f3, f4, t2, f5, f6⟩ => ?_)
  subst f1
  subst f2
  subst f3
  subst f5
  simp only [fs165_355, fs165_1129, fs165_1132, fj_OB, fj_AR, fj_CI, q_zo0, q_zo1, Option.toList_some, Option.toList_none, List.cons_append, List.nil_append, true_and, and_true, true_or, if_true, if_false, q_l10, q_l01, eq_self, Int32.reduceLT, Int32.reduceLE, Int32.reduceAdd, Int32.reduceSub, fj_up_at, Nat.reduceEqDiff, false_and, and_false, and_self, reduceCtorEq, Nat.reduceAdd, k_i i]
  exact nx t2 M2 f6
theorem law_6 {L : Nat} {xs : Nat → Int32} {i : Nat} (hi : i + 6 ≤ L) (hL : L ≤ 3072) {t : Bool} {M : fj_HM} (h : fj_Iv t M) {Q : fj_Po} (nx : lwN L xs i Q) : fj_H (some (L, xs)) 165 360 [.float 0, .ref 0, .ref 33, .int (nI i)] [] M (fj_PY t) 53 7835 Q := by
  by_cases hz : xs (i + 2) = 0
  · simp only [fs165_360, fs165_361, fs165_362, fs165_363, fs165_364, fs165_365, fs165_366, fs165_367, fs165_368, fs165_369, fs165_370, fs165_371, fs165_374, fs165_375, fs165_378, fs165_379, fj_OB, fj_AR, fj_CI, q_zo0, q_zo1, Option.toList_some, Option.toList_none, List.cons_append, List.nil_append, true_and, and_true, true_or, if_true, if_false, q_l10, q_l01, eq_self, Int32.reduceLT, Int32.reduceLE, Int32.reduceAdd, Int32.reduceSub, fj_up_at, Nat.reduceEqDiff, false_and, and_false, and_self, reduceCtorEq, Nat.reduceAdd, k_i i, q_in (show i + 1 < L by omega), q_clamp (show i + 1 < 100000 by omega), q_in (show i + 2 < L by omega), q_clamp (show i + 2 < 100000 by omega), eq_true hz]
    refine pr_use (pr_doze0 h (xs (i + 1))) (fun r M1 P1 ok e3 => ?_)
    obtain ⟨w, rfl⟩ := ok
    simp only [fs165_382, fs165_383, fs165_384, fs165_385, fs165_386, fs165_387, fs165_388, fs165_389, fs165_390, fs165_391, fs165_392, fs165_393, fs165_396, fs165_397, fs165_400, fs165_401, fj_OB, fj_AR, fj_CI, q_zo0, q_zo1, Option.toList_some, Option.toList_none, List.cons_append, List.nil_append, true_and, and_true, true_or, if_true, if_false, q_l10, q_l01, eq_self, Int32.reduceLT, Int32.reduceLE, Int32.reduceAdd, Int32.reduceSub, fj_up_at, Nat.reduceEqDiff, false_and, and_false, and_self, reduceCtorEq, Nat.reduceAdd, k_i i, q_in (show i + 1 < L by omega), q_clamp (show i + 1 < 100000 by omega), q_in (show i + 2 < L by omega), q_clamp (show i + 2 < 100000 by omega), eq_true hz]
    refine fj_H_mono e3 (fun r2 M2 P2 c2 z2 ⟨f1, f2, f3, f4, t2, f5, f6⟩ => ?_)
    subst f1
    subst f2
    subst f3
    subst f5
    simp only [fs165_404, fs165_1129, fs165_1132, fj_OB, fj_AR, fj_CI, q_zo0, q_zo1, Option.toList_some, Option.toList_none, List.cons_append, List.nil_append, true_and, and_true, true_or, if_true, if_false, q_l10, q_l01, eq_self, Int32.reduceLT, Int32.reduceLE, Int32.reduceAdd, Int32.reduceSub, fj_up_at, Nat.reduceEqDiff, false_and, and_false, and_self, reduceCtorEq, Nat.reduceAdd, k_i i]
    exact nx t2 M2 f6
  · simp only [fs165_360, fs165_361, fs165_362, fs165_363, fs165_364, fs165_365, fs165_366, fs165_367, fs165_368, fs165_369, fs165_370, fs165_371, fs165_374, fs165_375, fs165_378, fs165_379, fj_OB, fj_AR, fj_CI, q_zo0, q_zo1, Option.toList_some, Option.toList_none, List.cons_append, List.nil_append, true_and, and_true, true_or, if_true, if_false, q_l10, q_l01, eq_self, Int32.reduceLT, Int32.reduceLE, Int32.reduceAdd, Int32.reduceSub, fj_up_at, Nat.reduceEqDiff, false_and, and_false, and_self, reduceCtorEq, Nat.reduceAdd, k_i i, q_in (show i + 1 < L by omega), q_clamp (show i + 1 < 100000 by omega), q_in (show i + 2 < L by omega), q_clamp (show i + 2 < 100000 by omega), eq_false hz]
    refine pr_use (pr_doze1 h (xs (i + 1))) (fun r M1 P1 ok e3 => ?_)
    obtain ⟨w, rfl⟩ := ok
    simp only [fs165_382, fs165_383, fs165_384, fs165_385, fs165_386, fs165_387, fs165_388, fs165_389, fs165_390, fs165_391, fs165_392, fs165_393, fs165_396, fs165_397, fs165_400, fs165_401, fj_OB, fj_AR, fj_CI, q_zo0, q_zo1, Option.toList_some, Option.toList_none, List.cons_append, List.nil_append, true_and, and_true, true_or, if_true, if_false, q_l10, q_l01, eq_self, Int32.reduceLT, Int32.reduceLE, Int32.reduceAdd, Int32.reduceSub, fj_up_at, Nat.reduceEqDiff, false_and, and_false, and_self, reduceCtorEq, Nat.reduceAdd, k_i i, q_in (show i + 1 < L by omega), q_clamp (show i + 1 < 100000 by omega), q_in (show i + 2 < L by omega), q_clamp (show i + 2 < 100000 by omega), eq_false hz]
    refine fj_H_mono e3 (fun r2 M2 P2 c2 z2 ⟨f1, f2, f3, f4, t2, f5, f6⟩ => ?_)
    subst f1
    subst f2
    subst f3
    subst f5
    simp only [fs165_404, fs165_1129, fs165_1132, fj_OB, fj_AR, fj_CI, q_zo0, q_zo1, Option.toList_some, Option.toList_none, List.cons_append, List.nil_append, true_and, and_true, true_or, if_true, if_false, q_l10, q_l01, eq_self, Int32.reduceLT, Int32.reduceLE, Int32.reduceAdd, Int32.reduceSub, fj_up_at, Nat.reduceEqDiff, false_and, and_false, and_self, reduceCtorEq, Nat.reduceAdd, k_i i]
    exact nx t2 M2 f6
theorem law_7 {L : Nat} {xs : Nat → Int32} {i : Nat} (hi : i + 6 ≤ L) (hL : L ≤ 3072) {t : Bool} {M : fj_HM} (h : fj_Iv t M) {Q : fj_Po} (nx : lwN L xs i Q) : fj_H (some (L, xs)) 165 409 [.float 0, .ref 0, .ref 33, .int (nI i)] [] M (fj_PY t) 53 7835 Q := by
  simp only [fs165_409, fs165_410, fs165_411, fs165_412, fs165_413, fs165_414, fs165_415, fj_OB, fj_AR, fj_CI, q_zo0, q_zo1, Option.toList_some, Option.toList_none, List.cons_append, List.nil_append, true_and, and_true, true_or, if_true, if_false, q_l10, q_l01, eq_self, Int32.reduceLT, Int32.reduceLE, Int32.reduceAdd, Int32.reduceSub, fj_up_at, Nat.reduceEqDiff, false_and, and_false, and_self, reduceCtorEq, Nat.reduceAdd, k_i i, q_in (show i + 1 < L by omega), q_clamp (show i + 1 < 100000 by omega)]
  refine pr_use (pr_ears h (xs (i + 1))) (fun r M1 P1 ok e3 => ?_)
  obtain ⟨w, rfl⟩ := ok
  simp only [fs165_418, fs165_419, fs165_420, fs165_421, fs165_422, fs165_423, fs165_424, fj_OB, fj_AR, fj_CI, q_zo0, q_zo1, Option.toList_some, Option.toList_none, List.cons_append, List.nil_append, true_and, and_true, true_or, if_true, if_false, q_l10, q_l01, eq_self, Int32.reduceLT, Int32.reduceLE, Int32.reduceAdd, Int32.reduceSub, fj_up_at, Nat.reduceEqDiff, false_and, and_false, and_self, reduceCtorEq, Nat.reduceAdd, k_i i, q_in (show i + 1 < L by omega), q_clamp (show i + 1 < 100000 by omega)]
  refine fj_H_mono e3 (fun r2 M2 P2 c2 z2 ⟨f1, f2, f3, f4, t2, f5, f6⟩ => ?_)
  subst f1
  subst f2
  subst f3
  subst f5
  simp only [fs165_427, fs165_1129, fs165_1132, fj_OB, fj_AR, fj_CI, q_zo0, q_zo1, Option.toList_some, Option.toList_none, List.cons_append, List.nil_append, true_and, and_true, true_or, if_true, if_false, q_l10, q_l01, eq_self, Int32.reduceLT, Int32.reduceLE, Int32.reduceAdd, Int32.reduceSub, fj_up_at, Nat.reduceEqDiff, false_and, and_false, and_self, reduceCtorEq, Nat.reduceAdd, k_i i]
  exact nx t2 M2 f6
theorem law_8 {L : Nat} {xs : Nat → Int32} {i : Nat} (hi : i + 6 ≤ L) (hL : L ≤ 3072) {t : Bool} {M : fj_HM} (h : fj_Iv t M) {Q : fj_Po} (nx : lwN L xs i Q) : fj_H (some (L, xs)) 165 432 [.float 0, .ref 0, .ref 33, .int (nI i)] [] M (fj_PY t) 53 7835 Q := by
  simp only [fs165_432, fs165_433, fs165_434, fs165_435, fs165_436, fs165_437, fs165_438, fs165_439, fs165_440, fs165_441, fs165_442, fs165_443, fs165_444, fs165_445, fs165_446, fs165_447, fs165_448, fs165_449, fs165_450, fs165_451, fs165_452, fs165_453, fs165_454, fs165_455, fs165_456, fs165_457, fs165_458, fj_OB, fj_AR, fj_CI, q_zo0, q_zo1, Option.toList_some, Option.toList_none, List.cons_append, List.nil_append, true_and, and_true, true_or, if_true, if_false, q_l10, q_l01, eq_self, Int32.reduceLT, Int32.reduceLE, Int32.reduceAdd, Int32.reduceSub, fj_up_at, Nat.reduceEqDiff, false_and, and_false, and_self, reduceCtorEq, Nat.reduceAdd, k_i i, q_in (show i + 1 < L by omega), q_clamp (show i + 1 < 100000 by omega), q_in (show i + 2 < L by omega), q_clamp (show i + 2 < 100000 by omega), q_in (show i + 3 < L by omega), q_clamp (show i + 3 < 100000 by omega), q_in (show i + 4 < L by omega), q_clamp (show i + 4 < 100000 by omega), q_in (show i + 5 < L by omega), q_clamp (show i + 5 < 100000 by omega)]
  refine pr_use (pr_plan h (xs (i + 1)) (xs (i + 2)) (xs (i + 3)) (xs (i + 4)) (xs (i + 5))) (fun r M1 P1 ok e3 => ?_)
  obtain ⟨w, rfl⟩ := ok
  simp only [fs165_461, fs165_462, fs165_463, fs165_464, fs165_465, fs165_466, fs165_467, fs165_468, fs165_469, fs165_470, fs165_471, fs165_472, fs165_473, fs165_474, fs165_475, fs165_476, fs165_477, fs165_478, fs165_479, fs165_480, fs165_481, fs165_482, fs165_483, fs165_484, fs165_485, fs165_486, fs165_487, fj_OB, fj_AR, fj_CI, q_zo0, q_zo1, Option.toList_some, Option.toList_none, List.cons_append, List.nil_append, true_and, and_true, true_or, if_true, if_false, q_l10, q_l01, eq_self, Int32.reduceLT, Int32.reduceLE, Int32.reduceAdd, Int32.reduceSub, fj_up_at, Nat.reduceEqDiff, false_and, and_false, and_self, reduceCtorEq, Nat.reduceAdd, k_i i, q_in (show i + 1 < L by omega), q_clamp (show i + 1 < 100000 by omega), q_in (show i + 2 < L by omega), q_clamp (show i + 2 < 100000 by omega), q_in (show i + 3 < L by omega), q_clamp (show i + 3 < 100000 by omega), q_in (show i + 4 < L by omega), q_clamp (show i + 4 < 100000 by omega), q_in (show i + 5 < L by omega), q_clamp (show i + 5 < 100000 by omega)]
  refine fj_H_mono e3 (fun r2 M2 P2 c2 z2 ⟨f1, f2, f3, f4, t2, f5, f6⟩ => ?_)
  subst f1
  subst f2
  subst f3
  subst f5
  simp only [fs165_490, fs165_1129, fs165_1132, fj_OB, fj_AR, fj_CI, q_zo0, q_zo1, Option.toList_some, Option.toList_none, List.cons_append, List.nil_append, true_and, and_true, true_or, if_true, if_false, q_l10, q_l01, eq_self, Int32.reduceLT, Int32.reduceLE, Int32.reduceAdd, Int32.reduceSub, fj_up_at, Nat.reduceEqDiff, false_and, and_false, and_self, reduceCtorEq, Nat.reduceAdd, k_i i]
  exact nx t2 M2 f6
theorem law_9 {L : Nat} {xs : Nat → Int32} {i : Nat} (hi : i + 6 ≤ L) (hL : L ≤ 3072) {t : Bool} {M : fj_HM} (h : fj_Iv t M) {Q : fj_Po} (nx : lwN L xs i Q) : fj_H (some (L, xs)) 165 495 [.float 0, .ref 0, .ref 33, .int (nI i)] [] M (fj_PY t) 53 7835 Q := by
  simp only [fs165_495, fs165_496, fs165_497, fs165_498, fs165_499, fs165_500, fs165_501, fj_OB, fj_AR, fj_CI, q_zo0, q_zo1, Option.toList_some, Option.toList_none, List.cons_append, List.nil_append, true_and, and_true, true_or, if_true, if_false, q_l10, q_l01, eq_self, Int32.reduceLT, Int32.reduceLE, Int32.reduceAdd, Int32.reduceSub, fj_up_at, Nat.reduceEqDiff, false_and, and_false, and_self, reduceCtorEq, Nat.reduceAdd, k_i i, q_in (show i + 1 < L by omega), q_clamp (show i + 1 < 100000 by omega)]
  refine pr_use (pr_quiet h (xs (i + 1))) (fun r M1 P1 ok e3 => ?_)
  obtain ⟨w, rfl⟩ := ok
  simp only [fs165_504, fs165_505, fs165_506, fs165_507, fs165_508, fs165_509, fs165_510, fj_OB, fj_AR, fj_CI, q_zo0, q_zo1, Option.toList_some, Option.toList_none, List.cons_append, List.nil_append, true_and, and_true, true_or, if_true, if_false, q_l10, q_l01, eq_self, Int32.reduceLT, Int32.reduceLE, Int32.reduceAdd, Int32.reduceSub, fj_up_at, Nat.reduceEqDiff, false_and, and_false, and_self, reduceCtorEq, Nat.reduceAdd, k_i i, q_in (show i + 1 < L by omega), q_clamp (show i + 1 < 100000 by omega)]
  refine fj_H_mono e3 (fun r2 M2 P2 c2 z2 ⟨f1, f2, f3, f4, t2, f5, f6⟩ => ?_)
  subst f1
  subst f2
  subst f3
  subst f5
  simp only [fs165_513, fs165_1129, fs165_1132, fj_OB, fj_AR, fj_CI, q_zo0, q_zo1, Option.toList_some, Option.toList_none, List.cons_append, List.nil_append, true_and, and_true, true_or, if_true, if_false, q_l10, q_l01, eq_self, Int32.reduceLT, Int32.reduceLE, Int32.reduceAdd, Int32.reduceSub, fj_up_at, Nat.reduceEqDiff, false_and, and_false, and_self, reduceCtorEq, Nat.reduceAdd, k_i i]
  exact nx t2 M2 f6
theorem law_10 {L : Nat} {xs : Nat → Int32} {i : Nat} (hi : i + 6 ≤ L) (hL : L ≤ 3072) {t : Bool} {M : fj_HM} (h : fj_Iv t M) {Q : fj_Po} (nx : lwN L xs i Q) : fj_H (some (L, xs)) 165 518 [.float 0, .ref 0, .ref 33, .int (nI i)] [] M (fj_PY t) 53 7835 Q := by
  simp only [fs165_518, fs165_519, fj_OB, fj_AR, fj_CI, q_zo0, q_zo1, Option.toList_some, Option.toList_none, List.cons_append, List.nil_append, true_and, and_true, true_or, if_true, if_false, q_l10, q_l01, eq_self, Int32.reduceLT, Int32.reduceLE, Int32.reduceAdd, Int32.reduceSub, fj_up_at, Nat.reduceEqDiff, false_and, and_false, and_self, reduceCtorEq, Nat.reduceAdd, k_i i]
  refine pr_use (pr_stuck h ) (fun r M1 P1 ok e3 => ?_)
  obtain ⟨w, rfl⟩ := ok
  simp only [fs165_522, fs165_523, fj_OB, fj_AR, fj_CI, q_zo0, q_zo1, Option.toList_some, Option.toList_none, List.cons_append, List.nil_append, true_and, and_true, true_or, if_true, if_false, q_l10, q_l01, eq_self, Int32.reduceLT, Int32.reduceLE, Int32.reduceAdd, Int32.reduceSub, fj_up_at, Nat.reduceEqDiff, false_and, and_false, and_self, reduceCtorEq, Nat.reduceAdd, k_i i]
  refine fj_H_mono e3 (fun r2 M2 P2 c2 z2 ⟨f1, f2, f3, f4, t2, f5, f6⟩ => ?_)
  subst f1
  subst f2
  subst f3
  subst f5
  simp only [fs165_526, fs165_1129, fs165_1132, fj_OB, fj_AR, fj_CI, q_zo0, q_zo1, Option.toList_some, Option.toList_none, List.cons_append, List.nil_append, true_and, and_true, true_or, if_true, if_false, q_l10, q_l01, eq_self, Int32.reduceLT, Int32.reduceLE, Int32.reduceAdd, Int32.reduceSub, fj_up_at, Nat.reduceEqDiff, false_and, and_false, and_self, reduceCtorEq, Nat.reduceAdd, k_i i]
  exact nx t2 M2 f6
theorem law_11 {L : Nat} {xs : Nat → Int32} {i : Nat} (hi : i + 6 ≤ L) (hL : L ≤ 3072) {t : Bool} {M : fj_HM} (h : fj_Iv t M) {Q : fj_Po} (nx : lwN L xs i Q) : fj_H (some (L, xs)) 165 531 [.float 0, .ref 0, .ref 33, .int (nI i)] [] M (fj_PY t) 53 7835 Q := by
  simp only [fs165_531, fs165_532, fj_OB, fj_AR, fj_CI, q_zo0, q_zo1, Option.toList_some, Option.toList_none, List.cons_append, List.nil_append, true_and, and_true, true_or, if_true, if_false, q_l10, q_l01, eq_self, Int32.reduceLT, Int32.reduceLE, Int32.reduceAdd, Int32.reduceSub, fj_up_at, Nat.reduceEqDiff, false_and, and_false, and_self, reduceCtorEq, Nat.reduceAdd, k_i i]
  refine pr_use (pr_soonest h ) (fun r M1 P1 ok e3 => ?_)
  obtain ⟨w, rfl⟩ := ok
  simp only [fs165_535, fs165_536, fj_OB, fj_AR, fj_CI, q_zo0, q_zo1, Option.toList_some, Option.toList_none, List.cons_append, List.nil_append, true_and, and_true, true_or, if_true, if_false, q_l10, q_l01, eq_self, Int32.reduceLT, Int32.reduceLE, Int32.reduceAdd, Int32.reduceSub, fj_up_at, Nat.reduceEqDiff, false_and, and_false, and_self, reduceCtorEq, Nat.reduceAdd, k_i i]
  refine fj_H_mono e3 (fun r2 M2 P2 c2 z2 ⟨f1, f2, f3, f4, t2, f5, f6⟩ => ?_)
  subst f1
  subst f2
  subst f3
  subst f5
  simp only [fs165_539, fs165_1129, fs165_1132, fj_OB, fj_AR, fj_CI, q_zo0, q_zo1, Option.toList_some, Option.toList_none, List.cons_append, List.nil_append, true_and, and_true, true_or, if_true, if_false, q_l10, q_l01, eq_self, Int32.reduceLT, Int32.reduceLE, Int32.reduceAdd, Int32.reduceSub, fj_up_at, Nat.reduceEqDiff, false_and, and_false, and_self, reduceCtorEq, Nat.reduceAdd, k_i i]
  exact nx t2 M2 f6
theorem law_12 {L : Nat} {xs : Nat → Int32} {i : Nat} (hi : i + 6 ≤ L) (hL : L ≤ 3072) {t : Bool} {M : fj_HM} (h : fj_Iv t M) {Q : fj_Po} (nx : lwN L xs i Q) : fj_H (some (L, xs)) 165 544 [.float 0, .ref 0, .ref 33, .int (nI i)] [] M (fj_PY t) 53 7835 Q := by
  simp only [fs165_544, fs165_545, fj_OB, fj_AR, fj_CI, q_zo0, q_zo1, Option.toList_some, Option.toList_none, List.cons_append, List.nil_append, true_and, and_true, true_or, if_true, if_false, q_l10, q_l01, eq_self, Int32.reduceLT, Int32.reduceLE, Int32.reduceAdd, Int32.reduceSub, fj_up_at, Nat.reduceEqDiff, false_and, and_false, and_self, reduceCtorEq, Nat.reduceAdd, k_i i]
  refine pr_use (pr_most h ) (fun r M1 P1 ok e3 => ?_)
  obtain ⟨w, rfl⟩ := ok
  simp only [fs165_548, fs165_549, fj_OB, fj_AR, fj_CI, q_zo0, q_zo1, Option.toList_some, Option.toList_none, List.cons_append, List.nil_append, true_and, and_true, true_or, if_true, if_false, q_l10, q_l01, eq_self, Int32.reduceLT, Int32.reduceLE, Int32.reduceAdd, Int32.reduceSub, fj_up_at, Nat.reduceEqDiff, false_and, and_false, and_self, reduceCtorEq, Nat.reduceAdd, k_i i]
  refine fj_H_mono e3 (fun r2 M2 P2 c2 z2 ⟨f1, f2, f3, f4, t2, f5, f6⟩ => ?_)
  subst f1
  subst f2
  subst f3
  subst f5
  simp only [fs165_552, fs165_1129, fs165_1132, fj_OB, fj_AR, fj_CI, q_zo0, q_zo1, Option.toList_some, Option.toList_none, List.cons_append, List.nil_append, true_and, and_true, true_or, if_true, if_false, q_l10, q_l01, eq_self, Int32.reduceLT, Int32.reduceLE, Int32.reduceAdd, Int32.reduceSub, fj_up_at, Nat.reduceEqDiff, false_and, and_false, and_self, reduceCtorEq, Nat.reduceAdd, k_i i]
  exact nx t2 M2 f6
theorem law_13 {L : Nat} {xs : Nat → Int32} {i : Nat} (hi : i + 6 ≤ L) (hL : L ≤ 3072) {t : Bool} {M : fj_HM} (h : fj_Iv t M) {Q : fj_Po} (nx : lwN L xs i Q) : fj_H (some (L, xs)) 165 557 [.float 0, .ref 0, .ref 33, .int (nI i)] [] M (fj_PY t) 53 7835 Q := by
  simp only [fs165_557, fs165_558, fs165_559, fs165_560, fs165_561, fs165_562, fs165_563, fj_OB, fj_AR, fj_CI, q_zo0, q_zo1, Option.toList_some, Option.toList_none, List.cons_append, List.nil_append, true_and, and_true, true_or, if_true, if_false, q_l10, q_l01, eq_self, Int32.reduceLT, Int32.reduceLE, Int32.reduceAdd, Int32.reduceSub, fj_up_at, Nat.reduceEqDiff, false_and, and_false, and_self, reduceCtorEq, Nat.reduceAdd, k_i i, q_in (show i + 1 < L by omega), q_clamp (show i + 1 < 100000 by omega)]
  refine pr_use (pr_without h (xs (i + 1))) (fun r M1 P1 ok e3 => ?_)
  obtain ⟨w, rfl⟩ := ok
  simp only [fs165_566, fs165_567, fs165_568, fs165_569, fs165_570, fs165_571, fs165_572, fj_OB, fj_AR, fj_CI, q_zo0, q_zo1, Option.toList_some, Option.toList_none, List.cons_append, List.nil_append, true_and, and_true, true_or, if_true, if_false, q_l10, q_l01, eq_self, Int32.reduceLT, Int32.reduceLE, Int32.reduceAdd, Int32.reduceSub, fj_up_at, Nat.reduceEqDiff, false_and, and_false, and_self, reduceCtorEq, Nat.reduceAdd, k_i i, q_in (show i + 1 < L by omega), q_clamp (show i + 1 < 100000 by omega)]
  refine fj_H_mono e3 (fun r2 M2 P2 c2 z2 ⟨f1, f2, f3, f4, t2, f5, f6⟩ => ?_)
  subst f1
  subst f2
  subst f3
  subst f5
  simp only [fs165_575, fs165_1129, fs165_1132, fj_OB, fj_AR, fj_CI, q_zo0, q_zo1, Option.toList_some, Option.toList_none, List.cons_append, List.nil_append, true_and, and_true, true_or, if_true, if_false, q_l10, q_l01, eq_self, Int32.reduceLT, Int32.reduceLE, Int32.reduceAdd, Int32.reduceSub, fj_up_at, Nat.reduceEqDiff, false_and, and_false, and_self, reduceCtorEq, Nat.reduceAdd, k_i i]
  exact nx t2 M2 f6
theorem law_14 {L : Nat} {xs : Nat → Int32} {i : Nat} (hi : i + 6 ≤ L) (hL : L ≤ 3072) {t : Bool} {M : fj_HM} (h : fj_Iv t M) {Q : fj_Po} (nx : lwN L xs i Q) : fj_H (some (L, xs)) 165 580 [.float 0, .ref 0, .ref 33, .int (nI i)] [] M (fj_PY t) 53 7835 Q := by
  by_cases hz : xs (i + 3) = 0
  · simp only [fs165_580, fs165_581, fs165_582, fs165_583, fs165_584, fs165_585, fs165_586, fs165_587, fs165_588, fs165_589, fs165_590, fs165_591, fs165_592, fs165_593, fs165_594, fs165_595, fs165_596, fs165_599, fs165_600, fs165_603, fs165_604, fj_OB, fj_AR, fj_CI, q_zo0, q_zo1, Option.toList_some, Option.toList_none, List.cons_append, List.nil_append, true_and, and_true, true_or, if_true, if_false, q_l10, q_l01, eq_self, Int32.reduceLT, Int32.reduceLE, Int32.reduceAdd, Int32.reduceSub, fj_up_at, Nat.reduceEqDiff, false_and, and_false, and_self, reduceCtorEq, Nat.reduceAdd, k_i i, q_in (show i + 1 < L by omega), q_clamp (show i + 1 < 100000 by omega), q_in (show i + 2 < L by omega), q_clamp (show i + 2 < 100000 by omega), q_in (show i + 3 < L by omega), q_clamp (show i + 3 < 100000 by omega), eq_true hz]
    refine pr_use (pr_reading0 h (xs (i + 1)) (xs (i + 2))) (fun r M1 P1 ok e3 => ?_)
    obtain ⟨w, rfl⟩ := ok
    simp only [fs165_607, fs165_608, fs165_609, fs165_610, fs165_611, fs165_612, fs165_613, fs165_614, fs165_615, fs165_616, fs165_617, fs165_618, fs165_619, fs165_620, fs165_621, fs165_622, fs165_623, fs165_626, fs165_627, fs165_630, fs165_631, fj_OB, fj_AR, fj_CI, q_zo0, q_zo1, Option.toList_some, Option.toList_none, List.cons_append, List.nil_append, true_and, and_true, true_or, if_true, if_false, q_l10, q_l01, eq_self, Int32.reduceLT, Int32.reduceLE, Int32.reduceAdd, Int32.reduceSub, fj_up_at, Nat.reduceEqDiff, false_and, and_false, and_self, reduceCtorEq, Nat.reduceAdd, k_i i, q_in (show i + 1 < L by omega), q_clamp (show i + 1 < 100000 by omega), q_in (show i + 2 < L by omega), q_clamp (show i + 2 < 100000 by omega), q_in (show i + 3 < L by omega), q_clamp (show i + 3 < 100000 by omega), eq_true hz]
    refine fj_H_mono e3 (fun r2 M2 P2 c2 z2 ⟨f1, f2, f3, f4, t2, f5, f6⟩ => ?_)
    subst f1
    subst f2
    subst f3
    subst f5
    simp only [fs165_634, fs165_1129, fs165_1132, fj_OB, fj_AR, fj_CI, q_zo0, q_zo1, Option.toList_some, Option.toList_none, List.cons_append, List.nil_append, true_and, and_true, true_or, if_true, if_false, q_l10, q_l01, eq_self, Int32.reduceLT, Int32.reduceLE, Int32.reduceAdd, Int32.reduceSub, fj_up_at, Nat.reduceEqDiff, false_and, and_false, and_self, reduceCtorEq, Nat.reduceAdd, k_i i]
    exact nx t2 M2 f6
  · simp only [fs165_580, fs165_581, fs165_582, fs165_583, fs165_584, fs165_585, fs165_586, fs165_587, fs165_588, fs165_589, fs165_590, fs165_591, fs165_592, fs165_593, fs165_594, fs165_595, fs165_596, fs165_599, fs165_600, fs165_603, fs165_604, fj_OB, fj_AR, fj_CI, q_zo0, q_zo1, Option.toList_some, Option.toList_none, List.cons_append, List.nil_append, true_and, and_true, true_or, if_true, if_false, q_l10, q_l01, eq_self, Int32.reduceLT, Int32.reduceLE, Int32.reduceAdd, Int32.reduceSub, fj_up_at, Nat.reduceEqDiff, false_and, and_false, and_self, reduceCtorEq, Nat.reduceAdd, k_i i, q_in (show i + 1 < L by omega), q_clamp (show i + 1 < 100000 by omega), q_in (show i + 2 < L by omega), q_clamp (show i + 2 < 100000 by omega), q_in (show i + 3 < L by omega), q_clamp (show i + 3 < 100000 by omega), eq_false hz]
    refine pr_use (pr_reading1 h (xs (i + 1)) (xs (i + 2))) (fun r M1 P1 ok e3 => ?_)
    obtain ⟨w, rfl⟩ := ok
    simp only [fs165_607, fs165_608, fs165_609, fs165_610, fs165_611, fs165_612, fs165_613, fs165_614, fs165_615, fs165_616, fs165_617, fs165_618, fs165_619, fs165_620, fs165_621, fs165_622, fs165_623, fs165_626, fs165_627, fs165_630, fs165_631, fj_OB, fj_AR, fj_CI, q_zo0, q_zo1, Option.toList_some, Option.toList_none, List.cons_append, List.nil_append, true_and, and_true, true_or, if_true, if_false, q_l10, q_l01, eq_self, Int32.reduceLT, Int32.reduceLE, Int32.reduceAdd, Int32.reduceSub, fj_up_at, Nat.reduceEqDiff, false_and, and_false, and_self, reduceCtorEq, Nat.reduceAdd, k_i i, q_in (show i + 1 < L by omega), q_clamp (show i + 1 < 100000 by omega), q_in (show i + 2 < L by omega), q_clamp (show i + 2 < 100000 by omega), q_in (show i + 3 < L by omega), q_clamp (show i + 3 < 100000 by omega), eq_false hz]
    refine fj_H_mono e3 (fun r2 M2 P2 c2 z2 ⟨f1, f2, f3, f4, t2, f5, f6⟩ => ?_)
    subst f1
    subst f2
    subst f3
    subst f5
    simp only [fs165_634, fs165_1129, fs165_1132, fj_OB, fj_AR, fj_CI, q_zo0, q_zo1, Option.toList_some, Option.toList_none, List.cons_append, List.nil_append, true_and, and_true, true_or, if_true, if_false, q_l10, q_l01, eq_self, Int32.reduceLT, Int32.reduceLE, Int32.reduceAdd, Int32.reduceSub, fj_up_at, Nat.reduceEqDiff, false_and, and_false, and_self, reduceCtorEq, Nat.reduceAdd, k_i i]
    exact nx t2 M2 f6
theorem law_15 {L : Nat} {xs : Nat → Int32} {i : Nat} (hi : i + 6 ≤ L) (hL : L ≤ 3072) {t : Bool} {M : fj_HM} (h : fj_Iv t M) {Q : fj_Po} (nx : lwN L xs i Q) : fj_H (some (L, xs)) 165 639 [.float 0, .ref 0, .ref 33, .int (nI i)] [] M (fj_PY t) 53 7835 Q := by
  simp only [fs165_639, fs165_640, fs165_641, fs165_642, fs165_643, fs165_644, fs165_645, fj_OB, fj_AR, fj_CI, q_zo0, q_zo1, Option.toList_some, Option.toList_none, List.cons_append, List.nil_append, true_and, and_true, true_or, if_true, if_false, q_l10, q_l01, eq_self, Int32.reduceLT, Int32.reduceLE, Int32.reduceAdd, Int32.reduceSub, fj_up_at, Nat.reduceEqDiff, false_and, and_false, and_self, reduceCtorEq, Nat.reduceAdd, k_i i, q_in (show i + 1 < L by omega), q_clamp (show i + 1 < 100000 by omega)]
  refine pr_use (pr_back h (xs (i + 1))) (fun r M1 P1 ok e3 => ?_)
  obtain ⟨w, rfl⟩ := ok
  simp only [fs165_648, fs165_649, fs165_650, fs165_651, fs165_652, fs165_653, fs165_654, fj_OB, fj_AR, fj_CI, q_zo0, q_zo1, Option.toList_some, Option.toList_none, List.cons_append, List.nil_append, true_and, and_true, true_or, if_true, if_false, q_l10, q_l01, eq_self, Int32.reduceLT, Int32.reduceLE, Int32.reduceAdd, Int32.reduceSub, fj_up_at, Nat.reduceEqDiff, false_and, and_false, and_self, reduceCtorEq, Nat.reduceAdd, k_i i, q_in (show i + 1 < L by omega), q_clamp (show i + 1 < 100000 by omega)]
  refine fj_H_mono e3 (fun r2 M2 P2 c2 z2 ⟨f1, f2, f3, f4, t2, f5, f6⟩ => ?_)
  subst f1
  subst f2
  subst f3
  subst f5
  simp only [fs165_657, fs165_1129, fs165_1132, fj_OB, fj_AR, fj_CI, q_zo0, q_zo1, Option.toList_some, Option.toList_none, List.cons_append, List.nil_append, true_and, and_true, true_or, if_true, if_false, q_l10, q_l01, eq_self, Int32.reduceLT, Int32.reduceLE, Int32.reduceAdd, Int32.reduceSub, fj_up_at, Nat.reduceEqDiff, false_and, and_false, and_self, reduceCtorEq, Nat.reduceAdd, k_i i]
  exact nx t2 M2 f6
theorem law_16 {L : Nat} {xs : Nat → Int32} {i : Nat} (hi : i + 6 ≤ L) (hL : L ≤ 3072) {t : Bool} {M : fj_HM} (h : fj_Iv t M) {Q : fj_Po} (nx : lwN L xs i Q) : fj_H (some (L, xs)) 165 662 [.float 0, .ref 0, .ref 33, .int (nI i)] [] M (fj_PY t) 53 7835 Q := by
  simp only [fs165_662, fs165_663, fj_OB, fj_AR, fj_CI, q_zo0, q_zo1, Option.toList_some, Option.toList_none, List.cons_append, List.nil_append, true_and, and_true, true_or, if_true, if_false, q_l10, q_l01, eq_self, Int32.reduceLT, Int32.reduceLE, Int32.reduceAdd, Int32.reduceSub, fj_up_at, Nat.reduceEqDiff, false_and, and_false, and_self, reduceCtorEq, Nat.reduceAdd, k_i i]
  refine pr_use (pr_holds h ) (fun r M1 P1 ok e3 => ?_)
  obtain ⟨w, rfl⟩ := ok
  simp only [fs165_666, fs165_667, fj_OB, fj_AR, fj_CI, q_zo0, q_zo1, Option.toList_some, Option.toList_none, List.cons_append, List.nil_append, true_and, and_true, true_or, if_true, if_false, q_l10, q_l01, eq_self, Int32.reduceLT, Int32.reduceLE, Int32.reduceAdd, Int32.reduceSub, fj_up_at, Nat.reduceEqDiff, false_and, and_false, and_self, reduceCtorEq, Nat.reduceAdd, k_i i]
  refine fj_H_mono e3 (fun r2 M2 P2 c2 z2 ⟨f1, f2, f3, f4, t2, f5, f6⟩ => ?_)
  subst f1
  subst f2
  subst f3
  subst f5
  simp only [fs165_670, fs165_1129, fs165_1132, fj_OB, fj_AR, fj_CI, q_zo0, q_zo1, Option.toList_some, Option.toList_none, List.cons_append, List.nil_append, true_and, and_true, true_or, if_true, if_false, q_l10, q_l01, eq_self, Int32.reduceLT, Int32.reduceLE, Int32.reduceAdd, Int32.reduceSub, fj_up_at, Nat.reduceEqDiff, false_and, and_false, and_self, reduceCtorEq, Nat.reduceAdd, k_i i]
  exact nx t2 M2 f6
theorem law_17 {L : Nat} {xs : Nat → Int32} {i : Nat} (hi : i + 6 ≤ L) (hL : L ≤ 3072) {t : Bool} {M : fj_HM} (h : fj_Iv t M) {Q : fj_Po} (nx : lwN L xs i Q) : fj_H (some (L, xs)) 165 675 [.float 0, .ref 0, .ref 33, .int (nI i)] [] M (fj_PY t) 53 7835 Q := by
  simp only [fs165_675, fs165_676, fs165_677, fs165_678, fs165_679, fs165_680, fs165_681, fj_OB, fj_AR, fj_CI, q_zo0, q_zo1, Option.toList_some, Option.toList_none, List.cons_append, List.nil_append, true_and, and_true, true_or, if_true, if_false, q_l10, q_l01, eq_self, Int32.reduceLT, Int32.reduceLE, Int32.reduceAdd, Int32.reduceSub, fj_up_at, Nat.reduceEqDiff, false_and, and_false, and_self, reduceCtorEq, Nat.reduceAdd, k_i i, q_in (show i + 1 < L by omega), q_clamp (show i + 1 < 100000 by omega)]
  refine pr_use (pr_hearing h (xs (i + 1))) (fun r M1 P1 ok e3 => ?_)
  obtain ⟨w, rfl⟩ := ok
  simp only [fs165_684, fs165_685, fs165_686, fs165_687, fs165_688, fs165_689, fs165_690, fj_OB, fj_AR, fj_CI, q_zo0, q_zo1, Option.toList_some, Option.toList_none, List.cons_append, List.nil_append, true_and, and_true, true_or, if_true, if_false, q_l10, q_l01, eq_self, Int32.reduceLT, Int32.reduceLE, Int32.reduceAdd, Int32.reduceSub, fj_up_at, Nat.reduceEqDiff, false_and, and_false, and_self, reduceCtorEq, Nat.reduceAdd, k_i i, q_in (show i + 1 < L by omega), q_clamp (show i + 1 < 100000 by omega)]
  refine fj_H_mono e3 (fun r2 M2 P2 c2 z2 ⟨f1, f2, f3, f4, t2, f5, f6⟩ => ?_)
  subst f1
  subst f2
  subst f3
  subst f5
  simp only [fs165_693, fs165_1129, fs165_1132, fj_OB, fj_AR, fj_CI, q_zo0, q_zo1, Option.toList_some, Option.toList_none, List.cons_append, List.nil_append, true_and, and_true, true_or, if_true, if_false, q_l10, q_l01, eq_self, Int32.reduceLT, Int32.reduceLE, Int32.reduceAdd, Int32.reduceSub, fj_up_at, Nat.reduceEqDiff, false_and, and_false, and_self, reduceCtorEq, Nat.reduceAdd, k_i i]
  exact nx t2 M2 f6
theorem law_18 {L : Nat} {xs : Nat → Int32} {i : Nat} (hi : i + 6 ≤ L) (hL : L ≤ 3072) {t : Bool} {M : fj_HM} (h : fj_Iv t M) {Q : fj_Po} (nx : lwN L xs i Q) : fj_H (some (L, xs)) 165 698 [.float 0, .ref 0, .ref 33, .int (nI i)] [] M (fj_PY t) 53 7835 Q := by
  simp only [fs165_698, fs165_699, fs165_700, fs165_701, fs165_702, fs165_703, fs165_704, fj_OB, fj_AR, fj_CI, q_zo0, q_zo1, Option.toList_some, Option.toList_none, List.cons_append, List.nil_append, true_and, and_true, true_or, if_true, if_false, q_l10, q_l01, eq_self, Int32.reduceLT, Int32.reduceLE, Int32.reduceAdd, Int32.reduceSub, fj_up_at, Nat.reduceEqDiff, false_and, and_false, and_self, reduceCtorEq, Nat.reduceAdd, k_i i, q_in (show i + 1 < L by omega), q_clamp (show i + 1 < 100000 by omega)]
  refine pr_use (pr_kinds h (xs (i + 1))) (fun r M1 P1 ok e3 => ?_)
  obtain ⟨w, rfl⟩ := ok
  simp only [fs165_707, fs165_708, fs165_709, fs165_710, fs165_711, fs165_712, fs165_713, fj_OB, fj_AR, fj_CI, q_zo0, q_zo1, Option.toList_some, Option.toList_none, List.cons_append, List.nil_append, true_and, and_true, true_or, if_true, if_false, q_l10, q_l01, eq_self, Int32.reduceLT, Int32.reduceLE, Int32.reduceAdd, Int32.reduceSub, fj_up_at, Nat.reduceEqDiff, false_and, and_false, and_self, reduceCtorEq, Nat.reduceAdd, k_i i, q_in (show i + 1 < L by omega), q_clamp (show i + 1 < 100000 by omega)]
  refine fj_H_mono e3 (fun r2 M2 P2 c2 z2 ⟨f1, f2, f3, f4, t2, f5, f6⟩ => ?_)
  subst f1
  subst f2
  subst f3
  subst f5
  simp only [fs165_716, fs165_1129, fs165_1132, fj_OB, fj_AR, fj_CI, q_zo0, q_zo1, Option.toList_some, Option.toList_none, List.cons_append, List.nil_append, true_and, and_true, true_or, if_true, if_false, q_l10, q_l01, eq_self, Int32.reduceLT, Int32.reduceLE, Int32.reduceAdd, Int32.reduceSub, fj_up_at, Nat.reduceEqDiff, false_and, and_false, and_self, reduceCtorEq, Nat.reduceAdd, k_i i]
  exact nx t2 M2 f6
theorem law_19 {L : Nat} {xs : Nat → Int32} {i : Nat} (hi : i + 6 ≤ L) (hL : L ≤ 3072) {t : Bool} {M : fj_HM} (h : fj_Iv t M) {Q : fj_Po} (nx : lwN L xs i Q) : fj_H (some (L, xs)) 165 721 [.float 0, .ref 0, .ref 33, .int (nI i)] [] M (fj_PY t) 53 7835 Q := by
  simp only [fs165_721, fs165_722, fs165_723, fs165_724, fs165_725, fs165_726, fs165_727, fs165_728, fs165_729, fs165_730, fs165_731, fs165_732, fs165_733, fs165_734, fs165_735, fs165_736, fs165_737, fs165_738, fs165_739, fs165_740, fs165_741, fs165_742, fs165_743, fs165_744, fs165_745, fs165_746, fs165_747, fj_OB, fj_AR, fj_CI, q_zo0, q_zo1, Option.toList_some, Option.toList_none, List.cons_append, List.nil_append, true_and, and_true, true_or, if_true, if_false, q_l10, q_l01, eq_self, Int32.reduceLT, Int32.reduceLE, Int32.reduceAdd, Int32.reduceSub, fj_up_at, Nat.reduceEqDiff, false_and, and_false, and_self, reduceCtorEq, Nat.reduceAdd, k_i i, q_in (show i + 1 < L by omega), q_clamp (show i + 1 < 100000 by omega), q_in (show i + 2 < L by omega), q_clamp (show i + 2 < 100000 by omega), q_in (show i + 3 < L by omega), q_clamp (show i + 3 < 100000 by omega), q_in (show i + 4 < L by omega), q_clamp (show i + 4 < 100000 by omega), q_in (show i + 5 < L by omega), q_clamp (show i + 5 < 100000 by omega)]
  refine pr_use (pr_odds h (xs (i + 1)) (xs (i + 2)) (xs (i + 3)) (xs (i + 4)) (xs (i + 5))) (fun r M1 P1 ok e3 => ?_)
  obtain ⟨w, rfl⟩ := ok
  simp only [fs165_750, fs165_751, fs165_752, fs165_753, fs165_754, fs165_755, fs165_756, fs165_757, fs165_758, fs165_759, fs165_760, fs165_761, fs165_762, fs165_763, fs165_764, fs165_765, fs165_766, fs165_767, fs165_768, fs165_769, fs165_770, fs165_771, fs165_772, fs165_773, fs165_774, fs165_775, fs165_776, fj_OB, fj_AR, fj_CI, q_zo0, q_zo1, Option.toList_some, Option.toList_none, List.cons_append, List.nil_append, true_and, and_true, true_or, if_true, if_false, q_l10, q_l01, eq_self, Int32.reduceLT, Int32.reduceLE, Int32.reduceAdd, Int32.reduceSub, fj_up_at, Nat.reduceEqDiff, false_and, and_false, and_self, reduceCtorEq, Nat.reduceAdd, k_i i, q_in (show i + 1 < L by omega), q_clamp (show i + 1 < 100000 by omega), q_in (show i + 2 < L by omega), q_clamp (show i + 2 < 100000 by omega), q_in (show i + 3 < L by omega), q_clamp (show i + 3 < 100000 by omega), q_in (show i + 4 < L by omega), q_clamp (show i + 4 < 100000 by omega), q_in (show i + 5 < L by omega), q_clamp (show i + 5 < 100000 by omega)]
  refine fj_H_mono e3 (fun r2 M2 P2 c2 z2 ⟨f1, f2, f3, f4, t2, f5, f6⟩ => ?_)
  subst f1
  subst f2
  subst f3
  subst f5
  simp only [fs165_779, fs165_780, fs165_1129, fs165_1132, fj_OB, fj_AR, fj_CI, q_zo0, q_zo1, Option.toList_some, Option.toList_none, List.cons_append, List.nil_append, true_and, and_true, true_or, if_true, if_false, q_l10, q_l01, eq_self, Int32.reduceLT, Int32.reduceLE, Int32.reduceAdd, Int32.reduceSub, fj_up_at, Nat.reduceEqDiff, false_and, and_false, and_self, reduceCtorEq, Nat.reduceAdd, k_i i, lgc_eq]
  exact nx t2 M2 f6
theorem law_20 {L : Nat} {xs : Nat → Int32} {i : Nat} (hi : i + 6 ≤ L) (hL : L ≤ 3072) {t : Bool} {M : fj_HM} (h : fj_Iv t M) {Q : fj_Po} (nx : lwN L xs i Q) : fj_H (some (L, xs)) 165 785 [.float 0, .ref 0, .ref 33, .int (nI i)] [] M (fj_PY t) 53 7835 Q := by
  simp only [fs165_785, fs165_786, fs165_787, fs165_788, fs165_789, fs165_790, fs165_791, fs165_792, fs165_793, fs165_794, fs165_795, fs165_796, fs165_797, fs165_798, fs165_799, fs165_800, fs165_801, fj_OB, fj_AR, fj_CI, q_zo0, q_zo1, Option.toList_some, Option.toList_none, List.cons_append, List.nil_append, true_and, and_true, true_or, if_true, if_false, q_l10, q_l01, eq_self, Int32.reduceLT, Int32.reduceLE, Int32.reduceAdd, Int32.reduceSub, fj_up_at, Nat.reduceEqDiff, false_and, and_false, and_self, reduceCtorEq, Nat.reduceAdd, k_i i, q_in (show i + 1 < L by omega), q_clamp (show i + 1 < 100000 by omega), q_in (show i + 2 < L by omega), q_clamp (show i + 2 < 100000 by omega), q_in (show i + 3 < L by omega), q_clamp (show i + 3 < 100000 by omega)]
  refine pr_use (pr_sheet h (xs (i + 1)) (xs (i + 2)) (xs (i + 3))) (fun r M1 P1 ok e3 => ?_)
  obtain ⟨w, rfl⟩ := ok
  simp only [fs165_804, fs165_805, fs165_806, fs165_807, fs165_808, fs165_809, fs165_810, fs165_811, fs165_812, fs165_813, fs165_814, fs165_815, fs165_816, fs165_817, fs165_818, fs165_819, fs165_820, fj_OB, fj_AR, fj_CI, q_zo0, q_zo1, Option.toList_some, Option.toList_none, List.cons_append, List.nil_append, true_and, and_true, true_or, if_true, if_false, q_l10, q_l01, eq_self, Int32.reduceLT, Int32.reduceLE, Int32.reduceAdd, Int32.reduceSub, fj_up_at, Nat.reduceEqDiff, false_and, and_false, and_self, reduceCtorEq, Nat.reduceAdd, k_i i, q_in (show i + 1 < L by omega), q_clamp (show i + 1 < 100000 by omega), q_in (show i + 2 < L by omega), q_clamp (show i + 2 < 100000 by omega), q_in (show i + 3 < L by omega), q_clamp (show i + 3 < 100000 by omega)]
  refine fj_H_mono e3 (fun r2 M2 P2 c2 z2 ⟨f1, f2, f3, f4, t2, f5, f6⟩ => ?_)
  subst f1
  subst f2
  subst f3
  subst f5
  simp only [fs165_823, fs165_1129, fs165_1132, fj_OB, fj_AR, fj_CI, q_zo0, q_zo1, Option.toList_some, Option.toList_none, List.cons_append, List.nil_append, true_and, and_true, true_or, if_true, if_false, q_l10, q_l01, eq_self, Int32.reduceLT, Int32.reduceLE, Int32.reduceAdd, Int32.reduceSub, fj_up_at, Nat.reduceEqDiff, false_and, and_false, and_self, reduceCtorEq, Nat.reduceAdd, k_i i]
  exact nx t2 M2 f6
theorem law_21 {L : Nat} {xs : Nat → Int32} {i : Nat} (hi : i + 6 ≤ L) (hL : L ≤ 3072) {t : Bool} {M : fj_HM} (h : fj_Iv t M) {Q : fj_Po} (nx : lwN L xs i Q) : fj_H (some (L, xs)) 165 828 [.float 0, .ref 0, .ref 33, .int (nI i)] [] M (fj_PY t) 53 7835 Q := by
  simp only [fs165_828, fs165_829, fs165_830, fs165_831, fs165_832, fs165_833, fs165_834, fj_OB, fj_AR, fj_CI, q_zo0, q_zo1, Option.toList_some, Option.toList_none, List.cons_append, List.nil_append, true_and, and_true, true_or, if_true, if_false, q_l10, q_l01, eq_self, Int32.reduceLT, Int32.reduceLE, Int32.reduceAdd, Int32.reduceSub, fj_up_at, Nat.reduceEqDiff, false_and, and_false, and_self, reduceCtorEq, Nat.reduceAdd, k_i i, q_in (show i + 1 < L by omega), q_clamp (show i + 1 < 100000 by omega)]
  refine pr_use (pr_lose h (xs (i + 1))) (fun r M1 P1 ok e3 => ?_)
  obtain ⟨w, rfl⟩ := ok
  simp only [fs165_837, fs165_838, fs165_839, fs165_840, fs165_841, fs165_842, fs165_843, fj_OB, fj_AR, fj_CI, q_zo0, q_zo1, Option.toList_some, Option.toList_none, List.cons_append, List.nil_append, true_and, and_true, true_or, if_true, if_false, q_l10, q_l01, eq_self, Int32.reduceLT, Int32.reduceLE, Int32.reduceAdd, Int32.reduceSub, fj_up_at, Nat.reduceEqDiff, false_and, and_false, and_self, reduceCtorEq, Nat.reduceAdd, k_i i, q_in (show i + 1 < L by omega), q_clamp (show i + 1 < 100000 by omega)]
  refine fj_H_mono e3 (fun r2 M2 P2 c2 z2 ⟨f1, f2, f3, f4, t2, f5, f6⟩ => ?_)
  subst f1
  subst f2
  subst f3
  subst f5
  simp only [fs165_846, fs165_1129, fs165_1132, fj_OB, fj_AR, fj_CI, q_zo0, q_zo1, Option.toList_some, Option.toList_none, List.cons_append, List.nil_append, true_and, and_true, true_or, if_true, if_false, q_l10, q_l01, eq_self, Int32.reduceLT, Int32.reduceLE, Int32.reduceAdd, Int32.reduceSub, fj_up_at, Nat.reduceEqDiff, false_and, and_false, and_self, reduceCtorEq, Nat.reduceAdd, k_i i]
  exact nx t2 M2 f6
theorem law_22 {L : Nat} {xs : Nat → Int32} {i : Nat} (hi : i + 6 ≤ L) (hL : L ≤ 3072) {t : Bool} {M : fj_HM} (h : fj_Iv t M) {Q : fj_Po} (nx : lwN L xs i Q) : fj_H (some (L, xs)) 165 851 [.float 0, .ref 0, .ref 33, .int (nI i)] [] M (fj_PY t) 53 7835 Q := by
  simp only [fs165_851, fs165_852, fs165_853, fs165_854, fs165_855, fs165_856, fs165_857, fs165_858, fs165_859, fs165_860, fs165_861, fs165_862, fs165_863, fs165_864, fs165_865, fs165_866, fs165_867, fj_OB, fj_AR, fj_CI, q_zo0, q_zo1, Option.toList_some, Option.toList_none, List.cons_append, List.nil_append, true_and, and_true, true_or, if_true, if_false, q_l10, q_l01, eq_self, Int32.reduceLT, Int32.reduceLE, Int32.reduceAdd, Int32.reduceSub, fj_up_at, Nat.reduceEqDiff, false_and, and_false, and_self, reduceCtorEq, Nat.reduceAdd, k_i i, q_in (show i + 1 < L by omega), q_clamp (show i + 1 < 100000 by omega), q_in (show i + 2 < L by omega), q_clamp (show i + 2 < 100000 by omega), q_in (show i + 3 < L by omega), q_clamp (show i + 3 < 100000 by omega)]
  refine pr_use (pr_put h (xs (i + 1)) (xs (i + 2)) (xs (i + 3))) (fun r M1 P1 ok e3 => ?_)
  obtain ⟨w, rfl⟩ := ok
  simp only [fs165_870, fs165_871, fs165_872, fs165_873, fs165_874, fs165_875, fs165_876, fs165_877, fs165_878, fs165_879, fs165_880, fs165_881, fs165_882, fs165_883, fs165_884, fs165_885, fs165_886, fj_OB, fj_AR, fj_CI, q_zo0, q_zo1, Option.toList_some, Option.toList_none, List.cons_append, List.nil_append, true_and, and_true, true_or, if_true, if_false, q_l10, q_l01, eq_self, Int32.reduceLT, Int32.reduceLE, Int32.reduceAdd, Int32.reduceSub, fj_up_at, Nat.reduceEqDiff, false_and, and_false, and_self, reduceCtorEq, Nat.reduceAdd, k_i i, q_in (show i + 1 < L by omega), q_clamp (show i + 1 < 100000 by omega), q_in (show i + 2 < L by omega), q_clamp (show i + 2 < 100000 by omega), q_in (show i + 3 < L by omega), q_clamp (show i + 3 < 100000 by omega)]
  refine fj_H_mono e3 (fun r2 M2 P2 c2 z2 ⟨f1, f2, f3, f4, t2, f5, f6⟩ => ?_)
  subst f1
  subst f2
  subst f3
  subst f5
  simp only [fs165_889, fs165_1129, fs165_1132, fj_OB, fj_AR, fj_CI, q_zo0, q_zo1, Option.toList_some, Option.toList_none, List.cons_append, List.nil_append, true_and, and_true, true_or, if_true, if_false, q_l10, q_l01, eq_self, Int32.reduceLT, Int32.reduceLE, Int32.reduceAdd, Int32.reduceSub, fj_up_at, Nat.reduceEqDiff, false_and, and_false, and_self, reduceCtorEq, Nat.reduceAdd, k_i i]
  exact nx t2 M2 f6
theorem law_23 {L : Nat} {xs : Nat → Int32} {i : Nat} (hi : i + 6 ≤ L) (hL : L ≤ 3072) {t : Bool} {M : fj_HM} (h : fj_Iv t M) {Q : fj_Po} (nx : lwN L xs i Q) : fj_H (some (L, xs)) 165 894 [.float 0, .ref 0, .ref 33, .int (nI i)] [] M (fj_PY t) 53 7835 Q := by
  simp only [fs165_894, fs165_895, fs165_896, fs165_897, fs165_898, fs165_899, fs165_900, fs165_901, fs165_902, fs165_903, fs165_904, fs165_905, fs165_906, fs165_907, fs165_908, fs165_909, fs165_910, fj_OB, fj_AR, fj_CI, q_zo0, q_zo1, Option.toList_some, Option.toList_none, List.cons_append, List.nil_append, true_and, and_true, true_or, if_true, if_false, q_l10, q_l01, eq_self, Int32.reduceLT, Int32.reduceLE, Int32.reduceAdd, Int32.reduceSub, fj_up_at, Nat.reduceEqDiff, false_and, and_false, and_self, reduceCtorEq, Nat.reduceAdd, k_i i, q_in (show i + 1 < L by omega), q_clamp (show i + 1 < 100000 by omega), q_in (show i + 2 < L by omega), q_clamp (show i + 2 < 100000 by omega), q_in (show i + 3 < L by omega), q_clamp (show i + 3 < 100000 by omega)]
  refine pr_use (pr_cell h (xs (i + 1)) (xs (i + 2)) (xs (i + 3))) (fun r M1 P1 ok e3 => ?_)
  obtain ⟨w, rfl⟩ := ok
  simp only [fs165_913, fs165_914, fs165_915, fs165_916, fs165_917, fs165_918, fs165_919, fs165_920, fs165_921, fs165_922, fs165_923, fs165_924, fs165_925, fs165_926, fs165_927, fs165_928, fs165_929, fj_OB, fj_AR, fj_CI, q_zo0, q_zo1, Option.toList_some, Option.toList_none, List.cons_append, List.nil_append, true_and, and_true, true_or, if_true, if_false, q_l10, q_l01, eq_self, Int32.reduceLT, Int32.reduceLE, Int32.reduceAdd, Int32.reduceSub, fj_up_at, Nat.reduceEqDiff, false_and, and_false, and_self, reduceCtorEq, Nat.reduceAdd, k_i i, q_in (show i + 1 < L by omega), q_clamp (show i + 1 < 100000 by omega), q_in (show i + 2 < L by omega), q_clamp (show i + 2 < 100000 by omega), q_in (show i + 3 < L by omega), q_clamp (show i + 3 < 100000 by omega)]
  refine fj_H_mono e3 (fun r2 M2 P2 c2 z2 ⟨f1, f2, f3, f4, t2, f5, f6⟩ => ?_)
  subst f1
  subst f2
  subst f3
  subst f5
  simp only [fs165_932, fs165_933, fs165_1129, fs165_1132, fj_OB, fj_AR, fj_CI, q_zo0, q_zo1, Option.toList_some, Option.toList_none, List.cons_append, List.nil_append, true_and, and_true, true_or, if_true, if_false, q_l10, q_l01, eq_self, Int32.reduceLT, Int32.reduceLE, Int32.reduceAdd, Int32.reduceSub, fj_up_at, Nat.reduceEqDiff, false_and, and_false, and_self, reduceCtorEq, Nat.reduceAdd, k_i i, lgc_eq]
  exact nx t2 M2 f6
theorem law_24 {L : Nat} {xs : Nat → Int32} {i : Nat} (hi : i + 6 ≤ L) (hL : L ≤ 3072) {t : Bool} {M : fj_HM} (h : fj_Iv t M) {Q : fj_Po} (nx : lwN L xs i Q) : fj_H (some (L, xs)) 165 938 [.float 0, .ref 0, .ref 33, .int (nI i)] [] M (fj_PY t) 53 7835 Q := by
  simp only [fs165_938, fs165_939, fs165_940, fs165_941, fs165_942, fs165_943, fs165_944, fs165_945, fs165_946, fs165_947, fs165_948, fs165_949, fs165_950, fs165_951, fs165_952, fs165_953, fs165_954, fs165_955, fs165_956, fs165_957, fs165_958, fs165_959, fs165_960, fs165_961, fs165_962, fs165_963, fs165_964, fj_OB, fj_AR, fj_CI, q_zo0, q_zo1, Option.toList_some, Option.toList_none, List.cons_append, List.nil_append, true_and, and_true, true_or, if_true, if_false, q_l10, q_l01, eq_self, Int32.reduceLT, Int32.reduceLE, Int32.reduceAdd, Int32.reduceSub, fj_up_at, Nat.reduceEqDiff, false_and, and_false, and_self, reduceCtorEq, Nat.reduceAdd, k_i i, q_in (show i + 1 < L by omega), q_clamp (show i + 1 < 100000 by omega), q_in (show i + 2 < L by omega), q_clamp (show i + 2 < 100000 by omega), q_in (show i + 3 < L by omega), q_clamp (show i + 3 < 100000 by omega), q_in (show i + 4 < L by omega), q_clamp (show i + 4 < 100000 by omega), q_in (show i + 5 < L by omega), q_clamp (show i + 5 < 100000 by omega)]
  refine pr_use (pr_copy h (xs (i + 1)) (xs (i + 2)) (xs (i + 3)) (xs (i + 4)) (xs (i + 5))) (fun r M1 P1 ok e3 => ?_)
  obtain ⟨w, rfl⟩ := ok
  simp only [fs165_967, fs165_968, fs165_969, fs165_970, fs165_971, fs165_972, fs165_973, fs165_974, fs165_975, fs165_976, fs165_977, fs165_978, fs165_979, fs165_980, fs165_981, fs165_982, fs165_983, fs165_984, fs165_985, fs165_986, fs165_987, fs165_988, fs165_989, fs165_990, fs165_991, fs165_992, fs165_993, fj_OB, fj_AR, fj_CI, q_zo0, q_zo1, Option.toList_some, Option.toList_none, List.cons_append, List.nil_append, true_and, and_true, true_or, if_true, if_false, q_l10, q_l01, eq_self, Int32.reduceLT, Int32.reduceLE, Int32.reduceAdd, Int32.reduceSub, fj_up_at, Nat.reduceEqDiff, false_and, and_false, and_self, reduceCtorEq, Nat.reduceAdd, k_i i, q_in (show i + 1 < L by omega), q_clamp (show i + 1 < 100000 by omega), q_in (show i + 2 < L by omega), q_clamp (show i + 2 < 100000 by omega), q_in (show i + 3 < L by omega), q_clamp (show i + 3 < 100000 by omega), q_in (show i + 4 < L by omega), q_clamp (show i + 4 < 100000 by omega), q_in (show i + 5 < L by omega), q_clamp (show i + 5 < 100000 by omega)]
  refine fj_H_mono e3 (fun r2 M2 P2 c2 z2 ⟨f1, f2, f3, f4, t2, f5, f6⟩ => ?_)
  subst f1
  subst f2
  subst f3
  subst f5
  simp only [fs165_996, fs165_1129, fs165_1132, fj_OB, fj_AR, fj_CI, q_zo0, q_zo1, Option.toList_some, Option.toList_none, List.cons_append, List.nil_append, true_and, and_true, true_or, if_true, if_false, q_l10, q_l01, eq_self, Int32.reduceLT, Int32.reduceLE, Int32.reduceAdd, Int32.reduceSub, fj_up_at, Nat.reduceEqDiff, false_and, and_false, and_self, reduceCtorEq, Nat.reduceAdd, k_i i]
  exact nx t2 M2 f6
theorem law_25 {L : Nat} {xs : Nat → Int32} {i : Nat} (hi : i + 6 ≤ L) (hL : L ≤ 3072) {t : Bool} {M : fj_HM} (h : fj_Iv t M) {Q : fj_Po} (nx : lwN L xs i Q) : fj_H (some (L, xs)) 165 1001 [.float 0, .ref 0, .ref 33, .int (nI i)] [] M (fj_PY t) 53 7835 Q := by
  simp only [fs165_1001, fs165_1002, fs165_1003, fs165_1004, fs165_1005, fs165_1006, fs165_1007, fj_OB, fj_AR, fj_CI, q_zo0, q_zo1, Option.toList_some, Option.toList_none, List.cons_append, List.nil_append, true_and, and_true, true_or, if_true, if_false, q_l10, q_l01, eq_self, Int32.reduceLT, Int32.reduceLE, Int32.reduceAdd, Int32.reduceSub, fj_up_at, Nat.reduceEqDiff, false_and, and_false, and_self, reduceCtorEq, Nat.reduceAdd, k_i i, q_in (show i + 1 < L by omega), q_clamp (show i + 1 < 100000 by omega)]
  refine pr_use (pr_tell h (xs (i + 1))) (fun r M1 P1 ok e3 => ?_)
  obtain ⟨w, rfl⟩ := ok
  simp only [fs165_1010, fs165_1011, fs165_1012, fs165_1013, fs165_1014, fs165_1015, fs165_1016, fj_OB, fj_AR, fj_CI, q_zo0, q_zo1, Option.toList_some, Option.toList_none, List.cons_append, List.nil_append, true_and, and_true, true_or, if_true, if_false, q_l10, q_l01, eq_self, Int32.reduceLT, Int32.reduceLE, Int32.reduceAdd, Int32.reduceSub, fj_up_at, Nat.reduceEqDiff, false_and, and_false, and_self, reduceCtorEq, Nat.reduceAdd, k_i i, q_in (show i + 1 < L by omega), q_clamp (show i + 1 < 100000 by omega)]
  refine fj_H_mono e3 (fun r2 M2 P2 c2 z2 ⟨f1, f2, f3, f4, t2, f5, f6⟩ => ?_)
  subst f1
  subst f2
  subst f3
  subst f5
  simp only [fs165_1019, fs165_1129, fs165_1132, fj_OB, fj_AR, fj_CI, q_zo0, q_zo1, Option.toList_some, Option.toList_none, List.cons_append, List.nil_append, true_and, and_true, true_or, if_true, if_false, q_l10, q_l01, eq_self, Int32.reduceLT, Int32.reduceLE, Int32.reduceAdd, Int32.reduceSub, fj_up_at, Nat.reduceEqDiff, false_and, and_false, and_self, reduceCtorEq, Nat.reduceAdd, k_i i]
  exact nx t2 M2 f6
theorem law_26 {L : Nat} {xs : Nat → Int32} {i : Nat} (hi : i + 6 ≤ L) (hL : L ≤ 3072) {t : Bool} {M : fj_HM} (h : fj_Iv t M) {Q : fj_Po} (nx : lwN L xs i Q) : fj_H (some (L, xs)) 165 1024 [.float 0, .ref 0, .ref 33, .int (nI i)] [] M (fj_PY t) 53 7835 Q := by
  simp only [fs165_1024, fs165_1025, fs165_1026, fs165_1027, fs165_1028, fs165_1029, fs165_1030, fj_OB, fj_AR, fj_CI, q_zo0, q_zo1, Option.toList_some, Option.toList_none, List.cons_append, List.nil_append, true_and, and_true, true_or, if_true, if_false, q_l10, q_l01, eq_self, Int32.reduceLT, Int32.reduceLE, Int32.reduceAdd, Int32.reduceSub, fj_up_at, Nat.reduceEqDiff, false_and, and_false, and_self, reduceCtorEq, Nat.reduceAdd, k_i i, q_in (show i + 1 < L by omega), q_clamp (show i + 1 < 100000 by omega)]
  refine pr_use (pr_ask h (xs (i + 1))) (fun r M1 P1 ok e3 => ?_)
  obtain ⟨w, rfl⟩ := ok
  simp only [fs165_1033, fs165_1034, fs165_1035, fs165_1036, fs165_1037, fs165_1038, fs165_1039, fj_OB, fj_AR, fj_CI, q_zo0, q_zo1, Option.toList_some, Option.toList_none, List.cons_append, List.nil_append, true_and, and_true, true_or, if_true, if_false, q_l10, q_l01, eq_self, Int32.reduceLT, Int32.reduceLE, Int32.reduceAdd, Int32.reduceSub, fj_up_at, Nat.reduceEqDiff, false_and, and_false, and_self, reduceCtorEq, Nat.reduceAdd, k_i i, q_in (show i + 1 < L by omega), q_clamp (show i + 1 < 100000 by omega)]
  refine fj_H_mono e3 (fun r2 M2 P2 c2 z2 ⟨f1, f2, f3, f4, t2, f5, f6⟩ => ?_)
  subst f1
  subst f2
  subst f3
  subst f5
  simp only [fs165_1042, fs165_1129, fs165_1132, fj_OB, fj_AR, fj_CI, q_zo0, q_zo1, Option.toList_some, Option.toList_none, List.cons_append, List.nil_append, true_and, and_true, true_or, if_true, if_false, q_l10, q_l01, eq_self, Int32.reduceLT, Int32.reduceLE, Int32.reduceAdd, Int32.reduceSub, fj_up_at, Nat.reduceEqDiff, false_and, and_false, and_self, reduceCtorEq, Nat.reduceAdd, k_i i]
  exact nx t2 M2 f6
theorem law_27 {L : Nat} {xs : Nat → Int32} {i : Nat} (hi : i + 6 ≤ L) (hL : L ≤ 3072) {t : Bool} {M : fj_HM} (h : fj_Iv t M) {Q : fj_Po} (nx : lwN L xs i Q) : fj_H (some (L, xs)) 165 1047 [.float 0, .ref 0, .ref 33, .int (nI i)] [] M (fj_PY t) 53 7835 Q := by
  simp only [fs165_1047, fs165_1048, fs165_1049, fs165_1050, fs165_1051, fs165_1052, fs165_1053, fs165_1054, fs165_1055, fs165_1056, fs165_1057, fs165_1058, fj_OB, fj_AR, fj_CI, q_zo0, q_zo1, Option.toList_some, Option.toList_none, List.cons_append, List.nil_append, true_and, and_true, true_or, if_true, if_false, q_l10, q_l01, eq_self, Int32.reduceLT, Int32.reduceLE, Int32.reduceAdd, Int32.reduceSub, fj_up_at, Nat.reduceEqDiff, false_and, and_false, and_self, reduceCtorEq, Nat.reduceAdd, k_i i, q_in (show i + 1 < L by omega), q_clamp (show i + 1 < 100000 by omega), q_in (show i + 2 < L by omega), q_clamp (show i + 2 < 100000 by omega)]
  refine pr_use (pr_as h (xs (i + 1)) (xs (i + 2))) (fun r M1 P1 ok e3 => ?_)
  obtain ⟨w, rfl⟩ := ok
  simp only [fs165_1061, fs165_1062, fs165_1063, fs165_1064, fs165_1065, fs165_1066, fs165_1067, fs165_1068, fs165_1069, fs165_1070, fs165_1071, fs165_1072, fj_OB, fj_AR, fj_CI, q_zo0, q_zo1, Option.toList_some, Option.toList_none, List.cons_append, List.nil_append, true_and, and_true, true_or, if_true, if_false, q_l10, q_l01, eq_self, Int32.reduceLT, Int32.reduceLE, Int32.reduceAdd, Int32.reduceSub, fj_up_at, Nat.reduceEqDiff, false_and, and_false, and_self, reduceCtorEq, Nat.reduceAdd, k_i i, q_in (show i + 1 < L by omega), q_clamp (show i + 1 < 100000 by omega), q_in (show i + 2 < L by omega), q_clamp (show i + 2 < 100000 by omega)]
  refine fj_H_mono e3 (fun r2 M2 P2 c2 z2 ⟨f1, f2, f3, f4, t2, f5, f6⟩ => ?_)
  subst f1
  subst f2
  subst f3
  subst f5
  simp only [fs165_1075, fs165_1129, fs165_1132, fj_OB, fj_AR, fj_CI, q_zo0, q_zo1, Option.toList_some, Option.toList_none, List.cons_append, List.nil_append, true_and, and_true, true_or, if_true, if_false, q_l10, q_l01, eq_self, Int32.reduceLT, Int32.reduceLE, Int32.reduceAdd, Int32.reduceSub, fj_up_at, Nat.reduceEqDiff, false_and, and_false, and_self, reduceCtorEq, Nat.reduceAdd, k_i i]
  exact nx t2 M2 f6
theorem law_28 {L : Nat} {xs : Nat → Int32} {i : Nat} (hi : i + 6 ≤ L) (hL : L ≤ 3072) {t : Bool} {M : fj_HM} (h : fj_Iv t M) {Q : fj_Po} (nx : lwN L xs i Q) : fj_H (some (L, xs)) 165 1080 [.float 0, .ref 0, .ref 33, .int (nI i)] [] M (fj_PY t) 53 7835 Q := by
  simp only [fs165_1080, fs165_1081, fj_OB, fj_AR, fj_CI, q_zo0, q_zo1, Option.toList_some, Option.toList_none, List.cons_append, List.nil_append, true_and, and_true, true_or, if_true, if_false, q_l10, q_l01, eq_self, Int32.reduceLT, Int32.reduceLE, Int32.reduceAdd, Int32.reduceSub, fj_up_at, Nat.reduceEqDiff, false_and, and_false, and_self, reduceCtorEq, Nat.reduceAdd, k_i i]
  refine pr_use (pr_trace h ) (fun r M1 P1 ok e3 => ?_)
  obtain ⟨w, rfl⟩ := ok
  simp only [fs165_1084, fs165_1085, fj_OB, fj_AR, fj_CI, q_zo0, q_zo1, Option.toList_some, Option.toList_none, List.cons_append, List.nil_append, true_and, and_true, true_or, if_true, if_false, q_l10, q_l01, eq_self, Int32.reduceLT, Int32.reduceLE, Int32.reduceAdd, Int32.reduceSub, fj_up_at, Nat.reduceEqDiff, false_and, and_false, and_self, reduceCtorEq, Nat.reduceAdd, k_i i]
  refine fj_H_mono e3 (fun r2 M2 P2 c2 z2 ⟨f1, f2, f3, f4, t2, f5, f6⟩ => ?_)
  subst f1
  subst f2
  subst f3
  subst f5
  simp only [fs165_1088, fs165_1129, fs165_1132, fj_OB, fj_AR, fj_CI, q_zo0, q_zo1, Option.toList_some, Option.toList_none, List.cons_append, List.nil_append, true_and, and_true, true_or, if_true, if_false, q_l10, q_l01, eq_self, Int32.reduceLT, Int32.reduceLE, Int32.reduceAdd, Int32.reduceSub, fj_up_at, Nat.reduceEqDiff, false_and, and_false, and_self, reduceCtorEq, Nat.reduceAdd, k_i i]
  exact nx t2 M2 f6
theorem law_29 {L : Nat} {xs : Nat → Int32} {i : Nat} (hi : i + 6 ≤ L) (hL : L ≤ 3072) {t : Bool} {M : fj_HM} (h : fj_Iv t M) {Q : fj_Po} (nx : lwN L xs i Q) : fj_H (some (L, xs)) 165 1093 [.float 0, .ref 0, .ref 33, .int (nI i)] [] M (fj_PY t) 53 7835 Q := by
  simp only [fs165_1093, fs165_1094, fj_OB, fj_AR, fj_CI, q_zo0, q_zo1, Option.toList_some, Option.toList_none, List.cons_append, List.nil_append, true_and, and_true, true_or, if_true, if_false, q_l10, q_l01, eq_self, Int32.reduceLT, Int32.reduceLE, Int32.reduceAdd, Int32.reduceSub, fj_up_at, Nat.reduceEqDiff, false_and, and_false, and_self, reduceCtorEq, Nat.reduceAdd, k_i i]
  refine pr_use (pr_fault h ) (fun r M1 P1 ok e3 => ?_)
  obtain ⟨w, rfl⟩ := ok
  simp only [fs165_1097, fs165_1098, fj_OB, fj_AR, fj_CI, q_zo0, q_zo1, Option.toList_some, Option.toList_none, List.cons_append, List.nil_append, true_and, and_true, true_or, if_true, if_false, q_l10, q_l01, eq_self, Int32.reduceLT, Int32.reduceLE, Int32.reduceAdd, Int32.reduceSub, fj_up_at, Nat.reduceEqDiff, false_and, and_false, and_self, reduceCtorEq, Nat.reduceAdd, k_i i]
  refine fj_H_mono e3 (fun r2 M2 P2 c2 z2 ⟨f1, f2, f3, f4, t2, f5, f6⟩ => ?_)
  subst f1
  subst f2
  subst f3
  subst f5
  simp only [fs165_1101, fs165_1129, fs165_1132, fj_OB, fj_AR, fj_CI, q_zo0, q_zo1, Option.toList_some, Option.toList_none, List.cons_append, List.nil_append, true_and, and_true, true_or, if_true, if_false, q_l10, q_l01, eq_self, Int32.reduceLT, Int32.reduceLE, Int32.reduceAdd, Int32.reduceSub, fj_up_at, Nat.reduceEqDiff, false_and, and_false, and_self, reduceCtorEq, Nat.reduceAdd, k_i i]
  exact nx t2 M2 f6
theorem law_30 {L : Nat} {xs : Nat → Int32} {i : Nat} (hi : i + 6 ≤ L) (hL : L ≤ 3072) {t : Bool} {M : fj_HM} (h : fj_Iv t M) {Q : fj_Po} (nx : lwN L xs i Q) : fj_H (some (L, xs)) 165 1106 [.float 0, .ref 0, .ref 33, .int (nI i)] [] M (fj_PY t) 53 7835 Q := by
  simp only [fs165_1106, fs165_1107, fs165_1108, fs165_1109, fs165_1110, fs165_1111, fs165_1112, fj_OB, fj_AR, fj_CI, q_zo0, q_zo1, Option.toList_some, Option.toList_none, List.cons_append, List.nil_append, true_and, and_true, true_or, if_true, if_false, q_l10, q_l01, eq_self, Int32.reduceLT, Int32.reduceLE, Int32.reduceAdd, Int32.reduceSub, fj_up_at, Nat.reduceEqDiff, false_and, and_false, and_self, reduceCtorEq, Nat.reduceAdd, k_i i, q_in (show i + 1 < L by omega), q_clamp (show i + 1 < 100000 by omega)]
  refine pr_use (pr_many h (xs (i + 1))) (fun r M1 P1 ok e3 => ?_)
  obtain ⟨w, rfl⟩ := ok
  simp only [fs165_1115, fs165_1116, fs165_1117, fs165_1118, fs165_1119, fs165_1120, fs165_1121, fj_OB, fj_AR, fj_CI, q_zo0, q_zo1, Option.toList_some, Option.toList_none, List.cons_append, List.nil_append, true_and, and_true, true_or, if_true, if_false, q_l10, q_l01, eq_self, Int32.reduceLT, Int32.reduceLE, Int32.reduceAdd, Int32.reduceSub, fj_up_at, Nat.reduceEqDiff, false_and, and_false, and_self, reduceCtorEq, Nat.reduceAdd, k_i i, q_in (show i + 1 < L by omega), q_clamp (show i + 1 < 100000 by omega)]
  refine fj_H_mono e3 (fun r2 M2 P2 c2 z2 ⟨f1, f2, f3, f4, t2, f5, f6⟩ => ?_)
  subst f1
  subst f2
  subst f3
  subst f5
  simp only [fs165_1124, fs165_1129, fs165_1132, fj_OB, fj_AR, fj_CI, q_zo0, q_zo1, Option.toList_some, Option.toList_none, List.cons_append, List.nil_append, true_and, and_true, true_or, if_true, if_false, q_l10, q_l01, eq_self, Int32.reduceLT, Int32.reduceLE, Int32.reduceAdd, Int32.reduceSub, fj_up_at, Nat.reduceEqDiff, false_and, and_false, and_self, reduceCtorEq, Nat.reduceAdd, k_i i]
  exact nx t2 M2 f6
theorem k_len {L i : Nat} (hL : L ≤ 3072) (hi : i ≤ 4000) : (Int32.ofNat L - 6 < nI i) = (L < i + 6) := by
  apply propext
  have e6 : (6 : Int32).toInt = 6 := rfl
  have eL : (Int32.ofNat L).toInt = (L : Int) := q_toInt (by omega)
  rw [Int32.lt_iff_toInt_lt, Int32.toInt_sub, eL, e6, q_toInt (by omega), Int.bmod_eq_of_le (by omega) (by omega)]
  omega
theorem law_loop {L : Nat} {xs : Nat → Int32} (hL : L ≤ 3072) : ∀ (k i : Nat) (t : Bool) (M : fj_HM), L ≤ i + 6 * k + 5 → i ≤ 3080 → fj_Iv t M → fj_H (some (L, xs)) 165 18 [.float 0, .ref 0, .ref 33, .int (nI i)] [] M (fj_PY t) 53 7835 (fun v _ _ c z => v = some (.int 1) ∧ c = 53 ∧ z = 7835) := by
  intro k
  induction k with
  | zero =>
    intro i t M hk hi h
    rw [fs165_18]
    simp only [fs165_19, fs165_20, fs165_21, fs165_23, fs165_24, fj_OB, fj_AR, fj_CI, q_zo0, q_zo1, Option.toList_some, Option.toList_none, List.cons_append, List.nil_append, true_and, and_true, true_or, if_true, if_false, q_l10, q_l01, eq_self, Int32.reduceLT, Int32.reduceLE, Int32.reduceAdd, Int32.reduceSub, fj_up_at, Nat.reduceEqDiff, false_and, and_false, and_self, reduceCtorEq, Nat.reduceAdd, k_len hL (show i ≤ 4000 by omega), eq_true (show L < i + 6 by omega)]
    simp only [fs165_1135, fs165_1136, fj_OB, fj_AR, fj_CI, q_zo0, q_zo1, Option.toList_some, Option.toList_none, List.cons_append, List.nil_append, true_and, and_true, true_or, if_true, if_false, q_l10, q_l01, eq_self, Int32.reduceLT, Int32.reduceLE, Int32.reduceAdd, Int32.reduceSub, fj_up_at, Nat.reduceEqDiff, false_and, and_false, and_self, reduceCtorEq, Nat.reduceAdd]
  | succ k ih =>
    intro i t M hk hi h
    rw [fs165_18]
    simp only [fs165_19, fs165_20, fs165_21, fs165_23, fs165_24, fj_OB, fj_AR, fj_CI, q_zo0, q_zo1, Option.toList_some, Option.toList_none, List.cons_append, List.nil_append, true_and, and_true, true_or, if_true, if_false, q_l10, q_l01, eq_self, Int32.reduceLT, Int32.reduceLE, Int32.reduceAdd, Int32.reduceSub, fj_up_at, Nat.reduceEqDiff, false_and, and_false, and_self, reduceCtorEq, Nat.reduceAdd, k_len hL (show i ≤ 4000 by omega)]
    by_cases hl : L < i + 6
    · rw [if_pos hl]
      simp only [fs165_1135, fs165_1136, fj_OB, fj_AR, fj_CI, q_zo0, q_zo1, Option.toList_some, Option.toList_none, List.cons_append, List.nil_append, true_and, and_true, true_or, if_true, if_false, q_l10, q_l01, eq_self, Int32.reduceLT, Int32.reduceLE, Int32.reduceAdd, Int32.reduceSub, fj_up_at, Nat.reduceEqDiff, false_and, and_false, and_self, reduceCtorEq, Nat.reduceAdd]
    · rw [if_neg hl]
      have hi6 : i + 6 ≤ L := by omega
      have nx : lwN L xs i (fun v _ _ c z => v = some (.int 1) ∧ c = 53 ∧ z = 7835) := fun t' M' h' => ih (i + 6) t' M' (by omega) (by omega) h'
      simp only [fs165_27, fs165_28, fs165_29, fs165_30, fs165_32, fs165_33, fj_OB, fj_AR, fj_CI, q_zo0, q_zo1, Option.toList_some, Option.toList_none, List.cons_append, List.nil_append, true_and, and_true, true_or, if_true, if_false, q_l10, q_l01, eq_self, Int32.reduceLT, Int32.reduceLE, Int32.reduceAdd, Int32.reduceSub, fj_up_at, Nat.reduceEqDiff, false_and, and_false, and_self, reduceCtorEq, Nat.reduceAdd, q_in (show i < L by omega), q_clamp (show i < 100000 by omega)]
      generalize xs i &&& 31 = u
      by_cases u0 : u = 0
      · rw [if_pos u0]
        exact law_0 hi6 hL h nx
      rw [if_neg u0]
      by_cases u1 : u = 1
      · rw [if_pos u1]
        exact law_1 hi6 hL h nx
      rw [if_neg u1]
      by_cases u2 : u = 2
      · rw [if_pos u2]
        exact law_2 hi6 hL h nx
      rw [if_neg u2]
      by_cases u3 : u = 3
      · rw [if_pos u3]
        exact law_3 hi6 hL h nx
      rw [if_neg u3]
      by_cases u4 : u = 4
      · rw [if_pos u4]
        exact law_4 hi6 hL h nx
      rw [if_neg u4]
      by_cases u5 : u = 5
      · rw [if_pos u5]
        exact law_5 hi6 hL h nx
      rw [if_neg u5]
      by_cases u6 : u = 6
      · rw [if_pos u6]
        exact law_6 hi6 hL h nx
      rw [if_neg u6]
      by_cases u7 : u = 7
      · rw [if_pos u7]
        exact law_7 hi6 hL h nx
      rw [if_neg u7]
      by_cases u8 : u = 8
      · rw [if_pos u8]
        exact law_8 hi6 hL h nx
      rw [if_neg u8]
      by_cases u9 : u = 9
      · rw [if_pos u9]
        exact law_9 hi6 hL h nx
      rw [if_neg u9]
      by_cases u10 : u = 10
      · rw [if_pos u10]
        exact law_10 hi6 hL h nx
      rw [if_neg u10]
      by_cases u11 : u = 11
      · rw [if_pos u11]
        exact law_11 hi6 hL h nx
      rw [if_neg u11]
      by_cases u12 : u = 12
      · rw [if_pos u12]
        exact law_12 hi6 hL h nx
      rw [if_neg u12]
      by_cases u13 : u = 13
      · rw [if_pos u13]
        exact law_13 hi6 hL h nx
      rw [if_neg u13]
      by_cases u14 : u = 14
      · rw [if_pos u14]
        exact law_14 hi6 hL h nx
      rw [if_neg u14]
      by_cases u15 : u = 15
      · rw [if_pos u15]
        exact law_15 hi6 hL h nx
      rw [if_neg u15]
      by_cases u16 : u = 16
      · rw [if_pos u16]
        exact law_16 hi6 hL h nx
      rw [if_neg u16]
      by_cases u17 : u = 17
      · rw [if_pos u17]
        exact law_17 hi6 hL h nx
      rw [if_neg u17]
      by_cases u18 : u = 18
      · rw [if_pos u18]
        exact law_18 hi6 hL h nx
      rw [if_neg u18]
      by_cases u19 : u = 19
      · rw [if_pos u19]
        exact law_19 hi6 hL h nx
      rw [if_neg u19]
      by_cases u20 : u = 20
      · rw [if_pos u20]
        exact law_20 hi6 hL h nx
      rw [if_neg u20]
      by_cases u21 : u = 21
      · rw [if_pos u21]
        exact law_21 hi6 hL h nx
      rw [if_neg u21]
      by_cases u22 : u = 22
      · rw [if_pos u22]
        exact law_22 hi6 hL h nx
      rw [if_neg u22]
      by_cases u23 : u = 23
      · rw [if_pos u23]
        exact law_23 hi6 hL h nx
      rw [if_neg u23]
      by_cases u24 : u = 24
      · rw [if_pos u24]
        exact law_24 hi6 hL h nx
      rw [if_neg u24]
      by_cases u25 : u = 25
      · rw [if_pos u25]
        exact law_25 hi6 hL h nx
      rw [if_neg u25]
      by_cases u26 : u = 26
      · rw [if_pos u26]
        exact law_26 hi6 hL h nx
      rw [if_neg u26]
      by_cases u27 : u = 27
      · rw [if_pos u27]
        exact law_27 hi6 hL h nx
      rw [if_neg u27]
      by_cases u28 : u = 28
      · rw [if_pos u28]
        exact law_28 hi6 hL h nx
      rw [if_neg u28]
      by_cases u29 : u = 29
      · rw [if_pos u29]
        exact law_29 hi6 hL h nx
      rw [if_neg u29]
      by_cases u30 : u = 30
      · rw [if_pos u30]
        exact law_30 hi6 hL h nx
      rw [if_neg u30]
      simp only [fs165_1129, fs165_1132, fj_OB, fj_AR, fj_CI, q_zo0, q_zo1, Option.toList_some, Option.toList_none, List.cons_append, List.nil_append, true_and, and_true, true_or, if_true, if_false, q_l10, q_l01, eq_self, Int32.reduceLT, Int32.reduceLE, Int32.reduceAdd, Int32.reduceSub, fj_up_at, Nat.reduceEqDiff, false_and, and_false, and_self, reduceCtorEq, Nat.reduceAdd, k_i i]
      exact nx t M h
