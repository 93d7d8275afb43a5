/-! ===== the law, call by call ===== -/
theorem pr_use {ok : Option Value → Prop} {t : Bool} {M : fj_HM} {y1 : Nat} {l1 : List Value} {y2 : Nat} {l2 : List Value} (h : fj_pr ok t M y1 l1 y2 l2) {Qc : fj_Po} (k : ∀ r M1 P1, ok r → fj_H none y2 0 l2 [] M1 P1 53 7835 (fj_fin ok r) → Qc r M1 P1 53 7835) : fj_H none y1 0 l1 [] M (fj_PY t) 53 7835 Qc := by
  refine fj_H_mono h (fun r M1 P1 c1 z1 ⟨e1, e2, e3⟩ => ?_)
  subst e1
  subst e2
  refine k r M1 P1 ?_ e3
  obtain ⟨n, q, hq, hf⟩ := e3
  exact hf.2.2.2.1
theorem pr_doze0 {t : Bool} {M : fj_HM} (h : fj_Iv t M) (v : Int32) : fj_pr isI t M 65 [.ref 0, .int v, .int 0] 122 [.ref 33, .int v, .int 0, .null] := pr_doze h v false
theorem pr_doze1 {t : Bool} {M : fj_HM} (h : fj_Iv t M) (v : Int32) : fj_pr isI t M 65 [.ref 0, .int v, .int 1] 122 [.ref 33, .int v, .int 1, .null] := pr_doze h v true
theorem pr_reading0 {t : Bool} {M : fj_HM} (h : fj_Iv t M) (v w : Int32) : fj_pr isI t M 74 [.ref 0, .int v, .int w, .int 0] 141 [.ref 33, .int v, .int w, .int 0] := pr_reading h v w false
theorem pr_reading1 {t : Bool} {M : fj_HM} (h : fj_Iv t M) (v w : Int32) : fj_pr isI t M 74 [.ref 0, .int v, .int w, .int 1] 141 [.ref 33, .int v, .int w, .int 1] := pr_reading h v w true
/-- what comes after a call -/
def lwN (L : Nat) (xs : Nat → Int32) (i : Nat) (Q : fj_Po) : Prop := ∀ t' M', fj_Iv t' M' → fj_H (some (L, xs)) 164 18 [.float 0, .ref 0, .ref 33, .int (nI (i + 6))] [] M' (fj_PY t') 53 7835 Q
theorem k_i (i : Nat) : nI i + 1 = nI (i + 1) ∧ nI i + 2 = nI (i + 2) ∧ nI i + 3 = nI (i + 3) ∧ nI i + 4 = nI (i + 4) ∧ nI i + 5 = nI (i + 5) ∧ nI i + 6 = nI (i + 6) := ⟨nI_add i 1, nI_add i 2, nI_add i 3, nI_add i 4, nI_add i 5, nI_add i 6⟩
theorem law_0 {L : Nat} {xs : Nat → Int32} {i : Nat} (hi : i + 6 ≤ L) (hL : L ≤ 3072) {t : Bool} {M : fj_HM} (h : fj_Iv t M) {Q : fj_Po} (nx : lwN L xs i Q) : fj_H (some (L, xs)) 164 172 [.float 0, .ref 0, .ref 33, .int (nI i)] [] M (fj_PY t) 53 7835 Q := by
  simp only [fs164_172, fs164_173, fs164_174, fs164_175, fs164_176, fs164_177, fs164_178, fs164_179, fs164_180, fs164_181, fs164_182, fs164_183, fs164_184, fs164_185, fs164_186, fs164_187, fs164_188, fs164_189, fs164_190, fs164_191, fs164_192, fs164_193, fj_OB, fj_AR, fj_CI, q_zo0, q_zo1, Option.toList_some, Option.toList_none, List.cons_append, List.nil_append, true_and, and_true, true_or, if_true, if_false, q_l10, q_l01, eq_self, Int32.reduceLT, Int32.reduceLE, Int32.reduceAdd, Int32.reduceSub, fj_up_at, Nat.reduceEqDiff, false_and, and_false, and_self, reduceCtorEq, Nat.reduceAdd, k_i i, q_in (show i + 1 < L by omega), q_clamp (show i + 1 < 100000 by omega), q_in (show i + 2 < L by omega), q_clamp (show i + 2 < 100000 by omega), q_in (show i + 3 < L by omega), q_clamp (show i + 3 < 100000 by omega), q_in (show i + 4 < L by omega), q_clamp (show i + 4 < 100000 by omega)]
  refine pr_use (pr_yard h (xs (i + 1)) (xs (i + 2)) (xs (i + 3)) (xs (i + 4))) (fun r M1 P1 ok e3 => ?_)
  obtain ⟨w, rfl⟩ := ok
  simp only [fs164_196, fs164_197, fs164_198, fs164_199, fs164_200, fs164_201, fs164_202, fs164_203, fs164_204, fs164_205, fs164_206, fs164_207, fs164_208, fs164_209, fs164_210, fs164_211, fs164_212, fs164_213, fs164_214, fs164_215, fs164_216, fs164_217, fj_OB, fj_AR, fj_CI, q_zo0, q_zo1, Option.toList_some, Option.toList_none, List.cons_append, List.nil_append, true_and, and_true, true_or, if_true, if_false, q_l10, q_l01, eq_self, Int32.reduceLT, Int32.reduceLE, Int32.reduceAdd, Int32.reduceSub, fj_up_at, Nat.reduceEqDiff, false_and, and_false, and_self, reduceCtorEq, Nat.reduceAdd, k_i i, q_in (show i + 1 < L by omega), q_clamp (show i + 1 < 100000 by omega), q_in (show i + 2 < L by omega), q_clamp (show i + 2 < 100000 by omega), q_in (show i + 3 < L by omega), q_clamp (show i + 3 < 100000 by omega), q_in (show i + 4 < L by omega), q_clamp (show i + 4 < 100000 by omega)]
  refine fj_H_mono e3 (fun r2 M2 P2 c2 z2 ⟨f1, f2, f3, f4, t2, f5, f6⟩ => ?_)
  subst f1
  subst f2
  subst f3
  subst f5
  simp only [fs164_220, fs164_1129, fs164_1132, fj_OB, fj_AR, fj_CI, q_zo0, q_zo1, Option.toList_some, Option.toList_none, List.cons_append, List.nil_append, true_and, and_true, true_or, if_true, if_false, q_l10, q_l01, eq_self, Int32.reduceLT, Int32.reduceLE, Int32.reduceAdd, Int32.reduceSub, fj_up_at, Nat.reduceEqDiff, false_and, and_false, and_self, reduceCtorEq, Nat.reduceAdd, k_i i]
  exact nx t2 M2 f6
theorem law_1 {L : Nat} {xs : Nat → Int32} {i : Nat} (hi : i + 6 ≤ L) (hL : L ≤ 3072) {t : Bool} {M : fj_HM} (h : fj_Iv t M) {Q : fj_Po} (nx : lwN L xs i Q) : fj_H (some (L, xs)) 164 225 [.float 0, .ref 0, .ref 33, .int (nI i)] [] M (fj_PY t) 53 7835 Q := by
  simp only [fs164_225, fs164_226, fs164_227, fs164_228, fs164_229, fs164_230, fs164_231, fj_OB, fj_AR, fj_CI, q_zo0, q_zo1, Option.toList_some, Option.toList_none, List.cons_append, List.nil_append, true_and, and_true, true_or, if_true, if_false, q_l10, q_l01, eq_self, Int32.reduceLT, Int32.reduceLE, Int32.reduceAdd, Int32.reduceSub, fj_up_at, Nat.reduceEqDiff, false_and, and_false, and_self, reduceCtorEq, Nat.reduceAdd, k_i i, q_in (show i + 1 < L by omega), q_clamp (show i + 1 < 100000 by omega)]
  refine pr_use (pr_inside h (xs (i + 1))) (fun r M1 P1 ok e3 => ?_)
  obtain ⟨w, rfl⟩ := ok
  simp only [fs164_234, fs164_235, fs164_236, fs164_237, fs164_238, fs164_239, fs164_240, fj_OB, fj_AR, fj_CI, q_zo0, q_zo1, Option.toList_some, Option.toList_none, List.cons_append, List.nil_append, true_and, and_true, true_or, if_true, if_false, q_l10, q_l01, eq_self, Int32.reduceLT, Int32.reduceLE, Int32.reduceAdd, Int32.reduceSub, fj_up_at, Nat.reduceEqDiff, false_and, and_false, and_self, reduceCtorEq, Nat.reduceAdd, k_i i, q_in (show i + 1 < L by omega), q_clamp (show i + 1 < 100000 by omega)]
  refine fj_H_mono e3 (fun r2 M2 P2 c2 z2 ⟨f1, f2, f3, f4, t2, f5, f6⟩ => ?_)
  subst f1
  subst f2
  subst f3
  subst f5
  simp only [fs164_243, fs164_1129, fs164_1132, fj_OB, fj_AR, fj_CI, q_zo0, q_zo1, Option.toList_some, Option.toList_none, List.cons_append, List.nil_append, true_and, and_true, true_or, if_true, if_false, q_l10, q_l01, eq_self, Int32.reduceLT, Int32.reduceLE, Int32.reduceAdd, Int32.reduceSub, fj_up_at, Nat.reduceEqDiff, false_and, and_false, and_self, reduceCtorEq, Nat.reduceAdd, k_i i]
  exact nx t2 M2 f6
theorem law_2 {L : Nat} {xs : Nat → Int32} {i : Nat} (hi : i + 6 ≤ L) (hL : L ≤ 3072) {t : Bool} {M : fj_HM} (h : fj_Iv t M) {Q : fj_Po} (nx : lwN L xs i Q) : fj_H (some (L, xs)) 164 248 [.float 0, .ref 0, .ref 33, .int (nI i)] [] M (fj_PY t) 53 7835 Q := by
  simp only [fs164_248, fs164_249, fs164_250, fs164_251, fs164_252, fs164_253, fs164_254, fs164_255, fs164_256, fs164_257, fs164_258, fs164_259, fj_OB, fj_AR, fj_CI, q_zo0, q_zo1, Option.toList_some, Option.toList_none, List.cons_append, List.nil_append, true_and, and_true, true_or, if_true, if_false, q_l10, q_l01, eq_self, Int32.reduceLT, Int32.reduceLE, Int32.reduceAdd, Int32.reduceSub, fj_up_at, Nat.reduceEqDiff, false_and, and_false, and_self, reduceCtorEq, Nat.reduceAdd, k_i i, q_in (show i + 1 < L by omega), q_clamp (show i + 1 < 100000 by omega), q_in (show i + 2 < L by omega), q_clamp (show i + 2 < 100000 by omega)]
  refine pr_use (pr_ofMan h (xs (i + 1)) (xs (i + 2))) (fun r M1 P1 ok e3 => ?_)
  obtain ⟨w, rfl⟩ := ok
  simp only [fs164_262, fs164_263, fs164_264, fs164_265, fs164_266, fs164_267, fs164_268, fs164_269, fs164_270, fs164_271, fs164_272, fs164_273, fj_OB, fj_AR, fj_CI, q_zo0, q_zo1, Option.toList_some, Option.toList_none, List.cons_append, List.nil_append, true_and, and_true, true_or, if_true, if_false, q_l10, q_l01, eq_self, Int32.reduceLT, Int32.reduceLE, Int32.reduceAdd, Int32.reduceSub, fj_up_at, Nat.reduceEqDiff, false_and, and_false, and_self, reduceCtorEq, Nat.reduceAdd, k_i i, q_in (show i + 1 < L by omega), q_clamp (show i + 1 < 100000 by omega), q_in (show i + 2 < L by omega), q_clamp (show i + 2 < 100000 by omega)]
  refine fj_H_mono e3 (fun r2 M2 P2 c2 z2 ⟨f1, f2, f3, f4, t2, f5, f6⟩ => ?_)
  subst f1
  subst f2
  subst f3
  subst f5
  simp only [fs164_276, fs164_1129, fs164_1132, fj_OB, fj_AR, fj_CI, q_zo0, q_zo1, Option.toList_some, Option.toList_none, List.cons_append, List.nil_append, true_and, and_true, true_or, if_true, if_false, q_l10, q_l01, eq_self, Int32.reduceLT, Int32.reduceLE, Int32.reduceAdd, Int32.reduceSub, fj_up_at, Nat.reduceEqDiff, false_and, and_false, and_self, reduceCtorEq, Nat.reduceAdd, k_i i]
  exact nx t2 M2 f6
theorem law_3 {L : Nat} {xs : Nat → Int32} {i : Nat} (hi : i + 6 ≤ L) (hL : L ≤ 3072) {t : Bool} {M : fj_HM} (h : fj_Iv t M) {Q : fj_Po} (nx : lwN L xs i Q) : fj_H (some (L, xs)) 164 281 [.float 0, .ref 0, .ref 33, .int (nI i)] [] M (fj_PY t) 53 7835 Q := by
  simp only [fs164_281, fs164_282, fs164_283, fs164_284, fs164_285, fs164_286, fs164_287, fs164_288, fs164_289, fs164_290, fs164_291, fs164_292, fj_OB, fj_AR, fj_CI, q_zo0, q_zo1, Option.toList_some, Option.toList_none, List.cons_append, List.nil_append, true_and, and_true, true_or, if_true, if_false, q_l10, q_l01, eq_self, Int32.reduceLT, Int32.reduceLE, Int32.reduceAdd, Int32.reduceSub, fj_up_at, Nat.reduceEqDiff, false_and, and_false, and_self, reduceCtorEq, Nat.reduceAdd, k_i i, q_in (show i + 1 < L by omega), q_clamp (show i + 1 < 100000 by omega), q_in (show i + 2 < L by omega), q_clamp (show i + 2 < 100000 by omega)]
  refine pr_use (pr_far h (xs (i + 1)) (xs (i + 2))) (fun r M1 P1 ok e3 => ?_)
  obtain ⟨w, rfl⟩ := ok
  simp only [fs164_295, fs164_296, fs164_297, fs164_298, fs164_299, fs164_300, fs164_301, fs164_302, fs164_303, fs164_304, fs164_305, fs164_306, fj_OB, fj_AR, fj_CI, q_zo0, q_zo1, Option.toList_some, Option.toList_none, List.cons_append, List.nil_append, true_and, and_true, true_or, if_true, if_false, q_l10, q_l01, eq_self, Int32.reduceLT, Int32.reduceLE, Int32.reduceAdd, Int32.reduceSub, fj_up_at, Nat.reduceEqDiff, false_and, and_false, and_self, reduceCtorEq, Nat.reduceAdd, k_i i, q_in (show i + 1 < L by omega), q_clamp (show i + 1 < 100000 by omega), q_in (show i + 2 < L by omega), q_clamp (show i + 2 < 100000 by omega)]
  refine fj_H_mono e3 (fun r2 M2 P2 c2 z2 ⟨f1, f2, f3, f4, t2, f5, f6⟩ => ?_)
  subst f1
  subst f2
  subst f3
  subst f5
  simp only [fs164_309, fs164_1129, fs164_1132, fj_OB, fj_AR, fj_CI, q_zo0, q_zo1, Option.toList_some, Option.toList_none, List.cons_append, List.nil_append, true_and, and_true, true_or, if_true, if_false, q_l10, q_l01, eq_self, Int32.reduceLT, Int32.reduceLE, Int32.reduceAdd, Int32.reduceSub, fj_up_at, Nat.reduceEqDiff, false_and, and_false, and_self, reduceCtorEq, Nat.reduceAdd, k_i i]
  exact nx t2 M2 f6
theorem law_4 {L : Nat} {xs : Nat → Int32} {i : Nat} (hi : i + 6 ≤ L) (hL : L ≤ 3072) {t : Bool} {M : fj_HM} (h : fj_Iv t M) {Q : fj_Po} (nx : lwN L xs i Q) : fj_H (some (L, xs)) 164 314 [.float 0, .ref 0, .ref 33, .int (nI i)] [] M (fj_PY t) 53 7835 Q := by
  simp only [fs164_314, fs164_315, fs164_316, fs164_317, fs164_318, fs164_319, fs164_320, fj_OB, fj_AR, fj_CI, q_zo0, q_zo1, Option.toList_some, Option.toList_none, List.cons_append, List.nil_append, true_and, and_true, true_or, if_true, if_false, q_l10, q_l01, eq_self, Int32.reduceLT, Int32.reduceLE, Int32.reduceAdd, Int32.reduceSub, fj_up_at, Nat.reduceEqDiff, false_and, and_false, and_self, reduceCtorEq, Nat.reduceAdd, k_i i, q_in (show i + 1 < L by omega), q_clamp (show i + 1 < 100000 by omega)]
  refine pr_use (pr_can h (xs (i + 1))) (fun r M1 P1 ok e3 => ?_)
  obtain ⟨w, rfl⟩ := ok
  simp only [fs164_323, fs164_324, fs164_325, fs164_326, fs164_327, fs164_328, fs164_329, fj_OB, fj_AR, fj_CI, q_zo0, q_zo1, Option.toList_some, Option.toList_none, List.cons_append, List.nil_append, true_and, and_true, true_or, if_true, if_false, q_l10, q_l01, eq_self, Int32.reduceLT, Int32.reduceLE, Int32.reduceAdd, Int32.reduceSub, fj_up_at, Nat.reduceEqDiff, false_and, and_false, and_self, reduceCtorEq, Nat.reduceAdd, k_i i, q_in (show i + 1 < L by omega), q_clamp (show i + 1 < 100000 by omega)]
  refine fj_H_mono e3 (fun r2 M2 P2 c2 z2 ⟨f1, f2, f3, f4, t2, f5, f6⟩ => ?_)
  subst f1
  subst f2
  subst f3
  subst f5
  simp only [fs164_332, fs164_1129, fs164_1132, fj_OB, fj_AR, fj_CI, q_zo0, q_zo1, Option.toList_some, Option.toList_none, List.cons_append, List.nil_append, true_and, and_true, true_or, if_true, if_false, q_l10, q_l01, eq_self, Int32.reduceLT, Int32.reduceLE, Int32.reduceAdd, Int32.reduceSub, fj_up_at, Nat.reduceEqDiff, false_and, and_false, and_self, reduceCtorEq, Nat.reduceAdd, k_i i]
  exact nx t2 M2 f6
theorem law_5 {L : Nat} {xs : Nat → Int32} {i : Nat} (hi : i + 6 ≤ L) (hL : L ≤ 3072) {t : Bool} {M : fj_HM} (h : fj_Iv t M) {Q : fj_Po} (nx : lwN L xs i Q) : fj_H (some (L, xs)) 164 337 [.float 0, .ref 0, .ref 33, .int (nI i)] [] M (fj_PY t) 53 7835 Q := by
  simp only [fs164_337, fs164_338, fs164_339, fs164_340, fs164_341, fs164_342, fs164_343, fj_OB, fj_AR, fj_CI, q_zo0, q_zo1, Option.toList_some, Option.toList_none, List.cons_append, List.nil_append, true_and, and_true, true_or, if_true, if_false, q_l10, q_l01, eq_self, Int32.reduceLT, Int32.reduceLE, Int32.reduceAdd, Int32.reduceSub, fj_up_at, Nat.reduceEqDiff, false_and, and_false, and_self, reduceCtorEq, Nat.reduceAdd, k_i i, q_in (show i + 1 < L by omega), q_clamp (show i + 1 < 100000 by omega)]
  refine pr_use (pr_delay h (xs (i + 1))) (fun r M1 P1 ok e3 => ?_)
  obtain ⟨w, rfl⟩ := ok
  simp only [fs164_346, fs164_347, fs164_348, fs164_349, fs164_350, fs164_351, fs164_352, fj_OB, fj_AR, fj_CI, q_zo0, q_zo1, Option.toList_some, Option.toList_none, List.cons_append, List.nil_append, true_and, and_true, true_or, if_true, if_false, q_l10, q_l01, eq_self, Int32.reduceLT, Int32.reduceLE, Int32.reduceAdd, Int32.reduceSub, fj_up_at, Nat.reduceEqDiff, false_and, and_false, and_self, reduceCtorEq, Nat.reduceAdd, k_i i, q_in (show i + 1 < L by omega), q_clamp (show i + 1 < 100000 by omega)]
  refine fj_H_mono e3 (fun r2 M2 P2 c2 z2 ⟨f1, f2, f3, f4, t2, f5, f6⟩ => ?_)
  subst f1
  subst f2
  subst f3
  subst f5
  simp only [fs164_355, fs164_1129, fs164_1132, fj_OB, fj_AR, fj_CI, q_zo0, q_zo1, Option.toList_some, Option.toList_none, List.cons_append, List.nil_append, true_and, and_true, true_or, if_true, if_false, q_l10, q_l01, eq_self, Int32.reduceLT, Int32.reduceLE, Int32.reduceAdd, Int32.reduceSub, fj_up_at, Nat.reduceEqDiff, false_and, and_false, and_self, reduceCtorEq, Nat.reduceAdd, k_i i]
  exact nx t2 M2 f6
theorem law_6 {L : Nat} {xs : Nat → Int32} {i : Nat} (hi : i + 6 ≤ L) (hL : L ≤ 3072) {t : Bool} {M : fj_HM} (h : fj_Iv t M) {Q : fj_Po} (nx : lwN L xs i Q) : fj_H (some (L, xs)) 164 360 [.float 0, .ref 0, .ref 33, .int (nI i)] [] M (fj_PY t) 53 7835 Q := by
  by_cases hz : xs (i + 2) = 0
  · simp only [fs164_360, fs164_361, fs164_362, fs164_363, fs164_364, fs164_365, fs164_366, fs164_367, fs164_368, fs164_369, fs164_370, fs164_371, fs164_374, fs164_375, fs164_378, fs164_379, fj_OB, fj_AR, fj_CI, q_zo0, q_zo1, Option.toList_some, Option.toList_none, List.cons_append, List.nil_append, true_and, and_true, true_or, if_true, if_false, q_l10, q_l01, eq_self, Int32.reduceLT, Int32.reduceLE, Int32.reduceAdd, Int32.reduceSub, fj_up_at, Nat.reduceEqDiff, false_and, and_false, and_self, reduceCtorEq, Nat.reduceAdd, k_i i, q_in (show i + 1 < L by omega), q_clamp (show i + 1 < 100000 by omega), q_in (show i + 2 < L by omega), q_clamp (show i + 2 < 100000 by omega), eq_true hz]
    refine pr_use (pr_doze0 h (xs (i + 1))) (fun r M1 P1 ok e3 => ?_)
    obtain ⟨w, rfl⟩ := ok
    simp only [fs164_382, fs164_383, fs164_384, fs164_385, fs164_386, fs164_387, fs164_388, fs164_389, fs164_390, fs164_391, fs164_392, fs164_393, fs164_396, fs164_397, fs164_400, fs164_401, fj_OB, fj_AR, fj_CI, q_zo0, q_zo1, Option.toList_some, Option.toList_none, List.cons_append, List.nil_append, true_and, and_true, true_or, if_true, if_false, q_l10, q_l01, eq_self, Int32.reduceLT, Int32.reduceLE, Int32.reduceAdd, Int32.reduceSub, fj_up_at, Nat.reduceEqDiff, false_and, and_false, and_self, reduceCtorEq, Nat.reduceAdd, k_i i, q_in (show i + 1 < L by omega), q_clamp (show i + 1 < 100000 by omega), q_in (show i + 2 < L by omega), q_clamp (show i + 2 < 100000 by omega), eq_true hz]
    refine fj_H_mono e3 (fun r2 M2 P2 c2 z2 ⟨f1, f2, f3, f4, t2, f5, f6⟩ => ?_)
    subst f1
    subst f2
    subst f3
    subst f5
    simp only [fs164_404, fs164_1129, fs164_1132, fj_OB, fj_AR, fj_CI, q_zo0, q_zo1, Option.toList_some, Option.toList_none, List.cons_append, List.nil_append, true_and, and_true, true_or, if_true, if_false, q_l10, q_l01, eq_self, Int32.reduceLT, Int32.reduceLE, Int32.reduceAdd, Int32.reduceSub, fj_up_at, Nat.reduceEqDiff, false_and, and_false, and_self, reduceCtorEq, Nat.reduceAdd, k_i i]
    exact nx t2 M2 f6
  · simp only [fs164_360, fs164_361, fs164_362, fs164_363, fs164_364, fs164_365, fs164_366, fs164_367, fs164_368, fs164_369, fs164_370, fs164_371, fs164_374, fs164_375, fs164_378, fs164_379, fj_OB, fj_AR, fj_CI, q_zo0, q_zo1, Option.toList_some, Option.toList_none, List.cons_append, List.nil_append, true_and, and_true, true_or, if_true, if_false, q_l10, q_l01, eq_self, Int32.reduceLT, Int32.reduceLE, Int32.reduceAdd, Int32.reduceSub, fj_up_at, Nat.reduceEqDiff, false_and, and_false, and_self, reduceCtorEq, Nat.reduceAdd, k_i i, q_in (show i + 1 < L by omega), q_clamp (show i + 1 < 100000 by omega), q_in (show i + 2 < L by omega), q_clamp (show i + 2 < 100000 by omega), eq_false hz]
    refine pr_use (pr_doze1 h (xs (i + 1))) (fun r M1 P1 ok e3 => ?_)
    obtain ⟨w, rfl⟩ := ok
    simp only [fs164_382, fs164_383, fs164_384, fs164_385, fs164_386, fs164_387, fs164_388, fs164_389, fs164_390, fs164_391, fs164_392, fs164_393, fs164_396, fs164_397, fs164_400, fs164_401, fj_OB, fj_AR, fj_CI, q_zo0, q_zo1, Option.toList_some, Option.toList_none, List.cons_append, List.nil_append, true_and, and_true, true_or, if_true, if_false, q_l10, q_l01, eq_self, Int32.reduceLT, Int32.reduceLE, Int32.reduceAdd, Int32.reduceSub, fj_up_at, Nat.reduceEqDiff, false_and, and_false, and_self, reduceCtorEq, Nat.reduceAdd, k_i i, q_in (show i + 1 < L by omega), q_clamp (show i + 1 < 100000 by omega), q_in (show i + 2 < L by omega), q_clamp (show i + 2 < 100000 by omega), eq_false hz]
    refine fj_H_mono e3 (fun r2 M2 P2 c2 z2 ⟨f1, f2, f3, f4, t2, f5, f6⟩ => ?_)
    subst f1
    subst f2
    subst f3
    subst f5
    simp only [fs164_404, fs164_1129, fs164_1132, fj_OB, fj_AR, fj_CI, q_zo0, q_zo1, Option.toList_some, Option.toList_none, List.cons_append, List.nil_append, true_and, and_true, true_or, if_true, if_false, q_l10, q_l01, eq_self, Int32.reduceLT, Int32.reduceLE, Int32.reduceAdd, Int32.reduceSub, fj_up_at, Nat.reduceEqDiff, false_and, and_false, and_self, reduceCtorEq, Nat.reduceAdd, k_i i]
    exact nx t2 M2 f6
theorem law_7 {L : Nat} {xs : Nat → Int32} {i : Nat} (hi : i + 6 ≤ L) (hL : L ≤ 3072) {t : Bool} {M : fj_HM} (h : fj_Iv t M) {Q : fj_Po} (nx : lwN L xs i Q) : fj_H (some (L, xs)) 164 409 [.float 0, .ref 0, .ref 33, .int (nI i)] [] M (fj_PY t) 53 7835 Q := by
  simp only [fs164_409, fs164_410, fs164_411, fs164_412, fs164_413, fs164_414, fs164_415, fj_OB, fj_AR, fj_CI, q_zo0, q_zo1, Option.toList_some, Option.toList_none, List.cons_append, List.nil_append, true_and, and_true, true_or, if_true, if_false, q_l10, q_l01, eq_self, Int32.reduceLT, Int32.reduceLE, Int32.reduceAdd, Int32.reduceSub, fj_up_at, Nat.reduceEqDiff, false_and, and_false, and_self, reduceCtorEq, Nat.reduceAdd, k_i i, q_in (show i + 1 < L by omega), q_clamp (show i + 1 < 100000 by omega)]
  refine pr_use (pr_ears h (xs (i + 1))) (fun r M1 P1 ok e3 => ?_)
  obtain ⟨w, rfl⟩ := ok
  simp only [fs164_418, fs164_419, fs164_420, fs164_421, fs164_422, fs164_423, fs164_424, fj_OB, fj_AR, fj_CI, q_zo0, q_zo1, Option.toList_some, Option.toList_none, List.cons_append, List.nil_append, true_and, and_true, true_or, if_true, if_false, q_l10, q_l01, eq_self, Int32.reduceLT, Int32.reduceLE, Int32.reduceAdd, Int32.reduceSub, fj_up_at, Nat.reduceEqDiff, false_and, and_false, and_self, reduceCtorEq, Nat.reduceAdd, k_i i, q_in (show i + 1 < L by omega), q_clamp (show i + 1 < 100000 by omega)]
  refine fj_H_mono e3 (fun r2 M2 P2 c2 z2 ⟨f1, f2, f3, f4, t2, f5, f6⟩ => ?_)
  subst f1
  subst f2
  subst f3
  subst f5
  simp only [fs164_427, fs164_1129, fs164_1132, fj_OB, fj_AR, fj_CI, q_zo0, q_zo1, Option.toList_some, Option.toList_none, List.cons_append, List.nil_append, true_and, and_true, true_or, if_true, if_false, q_l10, q_l01, eq_self, Int32.reduceLT, Int32.reduceLE, Int32.reduceAdd, Int32.reduceSub, fj_up_at, Nat.reduceEqDiff, false_and, and_false, and_self, reduceCtorEq, Nat.reduceAdd, k_i i]
  exact nx t2 M2 f6
theorem law_8 {L : Nat} {xs : Nat → Int32} {i : Nat} (hi : i + 6 ≤ L) (hL : L ≤ 3072) {t : Bool} {M : fj_HM} (h : fj_Iv t M) {Q : fj_Po} (nx : lwN L xs i Q) : fj_H (some (L, xs)) 164 432 [.float 0, .ref 0, .ref 33, .int (nI i)] [] M (fj_PY t) 53 7835 Q := by
  simp only [fs164_432, fs164_433, fs164_434, fs164_435, fs164_436, fs164_437, fs164_438, fs164_439, fs164_440, fs164_441, fs164_442, fs164_443, fs164_444, fs164_445, fs164_446, fs164_447, fs164_448, fs164_449, fs164_450, fs164_451, fs164_452, fs164_453, fs164_454, fs164_455, fs164_456, fs164_457, fs164_458, fj_OB, fj_AR, fj_CI, q_zo0, q_zo1, Option.toList_some, Option.toList_none, List.cons_append, List.nil_append, true_and, and_true, true_or, if_true, if_false, q_l10, q_l01, eq_self, Int32.reduceLT, Int32.reduceLE, Int32.reduceAdd, Int32.reduceSub, fj_up_at, Nat.reduceEqDiff, false_and, and_false, and_self, reduceCtorEq, Nat.reduceAdd, k_i i, q_in (show i + 1 < L by omega), q_clamp (show i + 1 < 100000 by omega), q_in (show i + 2 < L by omega), q_clamp (show i + 2 < 100000 by omega), q_in (show i + 3 < L by omega), q_clamp (show i + 3 < 100000 by omega), q_in (show i + 4 < L by omega), q_clamp (show i + 4 < 100000 by omega), q_in (show i + 5 < L by omega), q_clamp (show i + 5 < 100000 by omega)]
  refine pr_use (pr_plan h (xs (i + 1)) (xs (i + 2)) (xs (i + 3)) (xs (i + 4)) (xs (i + 5))) (fun r M1 P1 ok e3 => ?_)
  obtain ⟨w, rfl⟩ := ok
  simp only [fs164_461, fs164_462, fs164_463, fs164_464, fs164_465, fs164_466, fs164_467, fs164_468, fs164_469, fs164_470, fs164_471, fs164_472, fs164_473, fs164_474, fs164_475, fs164_476, fs164_477, fs164_478, fs164_479, fs164_480, fs164_481, fs164_482, fs164_483, fs164_484, fs164_485, fs164_486, fs164_487, fj_OB, fj_AR, fj_CI, q_zo0, q_zo1, Option.toList_some, Option.toList_none, List.cons_append, List.nil_append, true_and, and_true, true_or, if_true, if_false, q_l10, q_l01, eq_self, Int32.reduceLT, Int32.reduceLE, Int32.reduceAdd, Int32.reduceSub, fj_up_at, Nat.reduceEqDiff, false_and, and_false, and_self, reduceCtorEq, Nat.reduceAdd, k_i i, q_in (show i + 1 < L by omega), q_clamp (show i + 1 < 100000 by omega), q_in (show i + 2 < L by omega), q_clamp (show i + 2 < 100000 by omega), q_in (show i + 3 < L by omega), q_clamp (show i + 3 < 100000 by omega), q_in (show i + 4 < L by omega), q_clamp (show i + 4 < 100000 by omega), q_in (show i + 5 < L by omega), q_clamp (show i + 5 < 100000 by omega)]
  refine fj_H_mono e3 (fun r2 M2 P2 c2 z2 ⟨f1, f2, f3, f4, t2, f5, f6⟩ => ?_)
  subst f1
  subst f2
  subst f3
  subst f5
  simp only [fs164_490, fs164_1129, fs164_1132, fj_OB, fj_AR, fj_CI, q_zo0, q_zo1, Option.toList_some, Option.toList_none, List.cons_append, List.nil_append, true_and, and_true, true_or, if_true, if_false, q_l10, q_l01, eq_self, Int32.reduceLT, Int32.reduceLE, Int32.reduceAdd, Int32.reduceSub, fj_up_at, Nat.reduceEqDiff, false_and, and_false, and_self, reduceCtorEq, Nat.reduceAdd, k_i i]
  exact nx t2 M2 f6
theorem law_9 {L : Nat} {xs : Nat → Int32} {i : Nat} (hi : i + 6 ≤ L) (hL : L ≤ 3072) {t : Bool} {M : fj_HM} (h : fj_Iv t M) {Q : fj_Po} (nx : lwN L xs i Q) : fj_H (some (L, xs)) 164 495 [.float 0, .ref 0, .ref 33, .int (nI i)] [] M (fj_PY t) 53 7835 Q := by
  simp only [fs164_495, fs164_496, fs164_497, fs164_498, fs164_499, fs164_500, fs164_501, fj_OB, fj_AR, fj_CI, q_zo0, q_zo1, Option.toList_some, Option.toList_none, List.cons_append, List.nil_append, true_and, and_true, true_or, if_true, if_false, q_l10, q_l01, eq_self, Int32.reduceLT, Int32.reduceLE, Int32.reduceAdd, Int32.reduceSub, fj_up_at, Nat.reduceEqDiff, false_and, and_false, and_self, reduceCtorEq, Nat.reduceAdd, k_i i, q_in (show i + 1 < L by omega), q_clamp (show i + 1 < 100000 by omega)]
  refine pr_use (pr_quiet h (xs (i + 1))) (fun r M1 P1 ok e3 => ?_)
  obtain ⟨w, rfl⟩ := ok
  simp only [fs164_504, fs164_505, fs164_506, fs164_507, fs164_508, fs164_509, fs164_510, fj_OB, fj_AR, fj_CI, q_zo0, q_zo1, Option.toList_some, Option.toList_none, List.cons_append, List.nil_append, true_and, and_true, true_or, if_true, if_false, q_l10, q_l01, eq_self, Int32.reduceLT, Int32.reduceLE, Int32.reduceAdd, Int32.reduceSub, fj_up_at, Nat.reduceEqDiff, false_and, and_false, and_self, reduceCtorEq, Nat.reduceAdd, k_i i, q_in (show i + 1 < L by omega), q_clamp (show i + 1 < 100000 by omega)]
  refine fj_H_mono e3 (fun r2 M2 P2 c2 z2 ⟨f1, f2, f3, f4, t2, f5, f6⟩ => ?_)
  subst f1
  subst f2
  subst f3
  subst f5
  simp only [fs164_513, fs164_1129, fs164_1132, fj_OB, fj_AR, fj_CI, q_zo0, q_zo1, Option.toList_some, Option.toList_none, List.cons_append, List.nil_append, true_and, and_true, true_or, if_true, if_false, q_l10, q_l01, eq_self, Int32.reduceLT, Int32.reduceLE, Int32.reduceAdd, Int32.reduceSub, fj_up_at, Nat.reduceEqDiff, false_and, and_false, and_self, reduceCtorEq, Nat.reduceAdd, k_i i]
  exact nx t2 M2 f6
theorem law_10 {L : Nat} {xs : Nat → Int32} {i : Nat} (hi : i + 6 ≤ L) (hL : L ≤ 3072) {t : Bool} {M : fj_HM} (h : fj_Iv t M) {Q : fj_Po} (nx : lwN L xs i Q) : fj_H (some (L, xs)) 164 518 [.float 0, .ref 0, .ref 33, .int (nI i)] [] M (fj_PY t) 53 7835 Q := by
  simp only [fs164_518, fs164_519, fj_OB, fj_AR, fj_CI, q_zo0, q_zo1, Option.toList_some, Option.toList_none, List.cons_append, List.nil_append, true_and, and_true, true_or, if_true, if_false, q_l10, q_l01, eq_self, Int32.reduceLT, Int32.reduceLE, Int32.reduceAdd, Int32.reduceSub, fj_up_at, Nat.reduceEqDiff, false_and, and_false, and_self, reduceCtorEq, Nat.reduceAdd, k_i i]
  refine pr_use (pr_stuck h ) (fun r M1 P1 ok e3 => ?_)
  obtain ⟨w, rfl⟩ := ok
  simp only [fs164_522, fs164_523, fj_OB, fj_AR, fj_CI, q_zo0, q_zo1, Option.toList_some, Option.toList_none, List.cons_append, List.nil_append, true_and, and_true, true_or, if_true, if_false, q_l10, q_l01, eq_self, Int32.reduceLT, Int32.reduceLE, Int32.reduceAdd, Int32.reduceSub, fj_up_at, Nat.reduceEqDiff, false_and, and_false, and_self, reduceCtorEq, Nat.reduceAdd, k_i i]
  refine fj_H_mono e3 (fun r2 M2 P2 c2 z2 ⟨f1, f2, f3, f4, t2, f5, f6⟩ => ?_)
  subst f1
  subst f2
  subst f3
  subst f5
  simp only [fs164_526, fs164_1129, fs164_1132, fj_OB, fj_AR, fj_CI, q_zo0, q_zo1, Option.toList_some, Option.toList_none, List.cons_append, List.nil_append, true_and, and_true, true_or, if_true, if_false, q_l10, q_l01, eq_self, Int32.reduceLT, Int32.reduceLE, Int32.reduceAdd, Int32.reduceSub, fj_up_at, Nat.reduceEqDiff, false_and, and_false, and_self, reduceCtorEq, Nat.reduceAdd, k_i i]
  exact nx t2 M2 f6
theorem law_11 {L : Nat} {xs : Nat → Int32} {i : Nat} (hi : i + 6 ≤ L) (hL : L ≤ 3072) {t : Bool} {M : fj_HM} (h : fj_Iv t M) {Q : fj_Po} (nx : lwN L xs i Q) : fj_H (some (L, xs)) 164 531 [.float 0, .ref 0, .ref 33, .int (nI i)] [] M (fj_PY t) 53 7835 Q := by
  simp only [fs164_531, fs164_532, fj_OB, fj_AR, fj_CI, q_zo0, q_zo1, Option.toList_some, Option.toList_none, List.cons_append, List.nil_append, true_and, and_true, true_or, if_true, if_false, q_l10, q_l01, eq_self, Int32.reduceLT, Int32.reduceLE, Int32.reduceAdd, Int32.reduceSub, fj_up_at, Nat.reduceEqDiff, false_and, and_false, and_self, reduceCtorEq, Nat.reduceAdd, k_i i]
  refine pr_use (pr_soonest h ) (fun r M1 P1 ok e3 => ?_)
  obtain ⟨w, rfl⟩ := ok
  simp only [fs164_535, fs164_536, fj_OB, fj_AR, fj_CI, q_zo0, q_zo1, Option.toList_some, Option.toList_none, List.cons_append, List.nil_append, true_and, and_true, true_or, if_true, if_false, q_l10, q_l01, eq_self, Int32.reduceLT, Int32.reduceLE, Int32.reduceAdd, Int32.reduceSub, fj_up_at, Nat.reduceEqDiff, false_and, and_false, and_self, reduceCtorEq, Nat.reduceAdd, k_i i]
  refine fj_H_mono e3 (fun r2 M2 P2 c2 z2 ⟨f1, f2, f3, f4, t2, f5, f6⟩ => ?_)
  subst f1
  subst f2
  subst f3
  subst f5
  simp only [fs164_539, fs164_1129, fs164_1132, fj_OB, fj_AR, fj_CI, q_zo0, q_zo1, Option.toList_some, Option.toList_none, List.cons_append, List.nil_append, true_and, and_true, true_or, if_true, if_false, q_l10, q_l01, eq_self, Int32.reduceLT, Int32.reduceLE, Int32.reduceAdd, Int32.reduceSub, fj_up_at, Nat.reduceEqDiff, false_and, and_false, and_self, reduceCtorEq, Nat.reduceAdd, k_i i]
  exact nx t2 M2 f6
theorem law_12 {L : Nat} {xs : Nat → Int32} {i : Nat} (hi : i + 6 ≤ L) (hL : L ≤ 3072) {t : Bool} {M : fj_HM} (h : fj_Iv t M) {Q : fj_Po} (nx : lwN L xs i Q) : fj_H (some (L, xs)) 164 544 [.float 0, .ref 0, .ref 33, .int (nI i)] [] M (fj_PY t) 53 7835 Q := by
  simp only [fs164_544, fs164_545, fj_OB, fj_AR, fj_CI, q_zo0, q_zo1, Option.toList_some, Option.toList_none, List.cons_append, List.nil_append, true_and, and_true, true_or, if_true, if_false, q_l10, q_l01, eq_self, Int32.reduceLT, Int32.reduceLE, Int32.reduceAdd, Int32.reduceSub, fj_up_at, Nat.reduceEqDiff, false_and, and_false, and_self, reduceCtorEq, Nat.reduceAdd, k_i i]
  refine pr_use (pr_most h ) (fun r M1 P1 ok e3 => ?_)
  obtain ⟨w, rfl⟩ := ok
  simp only [fs164_548, fs164_549, fj_OB, fj_AR, fj_CI, q_zo0, q_zo1, Option.toList_some, Option.toList_none, List.cons_append, List.nil_append, true_and, and_true, true_or, if_true, if_false, q_l10, q_l01, eq_self, Int32.reduceLT, Int32.reduceLE, Int32.reduceAdd, Int32.reduceSub, fj_up_at, Nat.reduceEqDiff, false_and, and_false, and_self, reduceCtorEq, Nat.reduceAdd, k_i i]
  refine fj_H_mono e3 (fun r2 M2 P2 c2 z2 ⟨f1, f2, f3, f4, t2, f5, f6⟩ => ?_)
  subst f1
  subst f2
  subst f3
  subst f5
  simp only [fs164_552, fs164_1129, fs164_1132, fj_OB, fj_AR, fj_CI, q_zo0, q_zo1, Option.toList_some, Option.toList_none, List.cons_append, List.nil_append, true_and, and_true, true_or, if_true, if_false, q_l10, q_l01, eq_self, Int32.reduceLT, Int32.reduceLE, Int32.reduceAdd, Int32.reduceSub, fj_up_at, Nat.reduceEqDiff, false_and, and_false, and_self, reduceCtorEq, Nat.reduceAdd, k_i i]
  exact nx t2 M2 f6
theorem law_13 {L : Nat} {xs : Nat → Int32} {i : Nat} (hi : i + 6 ≤ L) (hL : L ≤ 3072) {t : Bool} {M : fj_HM} (h : fj_Iv t M) {Q : fj_Po} (nx : lwN L xs i Q) : fj_H (some (L, xs)) 164 557 [.float 0, .ref 0, .ref 33, .int (nI i)] [] M (fj_PY t) 53 7835 Q := by
  simp only [fs164_557, fs164_558, fs164_559, fs164_560, fs164_561, fs164_562, fs164_563, fj_OB, fj_AR, fj_CI, q_zo0, q_zo1, Option.toList_some, Option.toList_none, List.cons_append, List.nil_append, true_and, and_true, true_or, if_true, if_false, q_l10, q_l01, eq_self, Int32.reduceLT, Int32.reduceLE, Int32.reduceAdd, Int32.reduceSub, fj_up_at, Nat.reduceEqDiff, false_and, and_false, and_self, reduceCtorEq, Nat.reduceAdd, k_i i, q_in (show i + 1 < L by omega), q_clamp (show i + 1 < 100000 by omega)]
  refine pr_use (pr_without h (xs (i + 1))) (fun r M1 P1 ok e3 => ?_)
  obtain ⟨w, rfl⟩ := ok
  simp only [fs164_566, fs164_567, fs164_568, fs164_569, fs164_570, fs164_571, fs164_572, fj_OB, fj_AR, fj_CI, q_zo0, q_zo1, Option.toList_some, Option.toList_none, List.cons_append, List.nil_append, true_and, and_true, true_or, if_true, if_false, q_l10, q_l01, eq_self, Int32.reduceLT, Int32.reduceLE, Int32.reduceAdd, Int32.reduceSub, fj_up_at, Nat.reduceEqDiff, false_and, and_false, and_self, reduceCtorEq, Nat.reduceAdd, k_i i, q_in (show i + 1 < L by omega), q_clamp (show i + 1 < 100000 by omega)]
  refine fj_H_mono e3 (fun r2 M2 P2 c2 z2 ⟨f1, f2, f3, f4, t2, f5, f6⟩ => ?_)
  subst f1
  subst f2
  subst f3
  subst f5
  simp only [fs164_575, fs164_1129, fs164_1132, fj_OB, fj_AR, fj_CI, q_zo0, q_zo1, Option.toList_some, Option.toList_none, List.cons_append, List.nil_append, true_and, and_true, true_or, if_true, if_false, q_l10, q_l01, eq_self, Int32.reduceLT, Int32.reduceLE, Int32.reduceAdd, Int32.reduceSub, fj_up_at, Nat.reduceEqDiff, false_and, and_false, and_self, reduceCtorEq, Nat.reduceAdd, k_i i]
  exact nx t2 M2 f6
theorem law_14 {L : Nat} {xs : Nat → Int32} {i : Nat} (hi : i + 6 ≤ L) (hL : L ≤ 3072) {t : Bool} {M : fj_HM} (h : fj_Iv t M) {Q : fj_Po} (nx : lwN L xs i Q) : fj_H (some (L, xs)) 164 580 [.float 0, .ref 0, .ref 33, .int (nI i)] [] M (fj_PY t) 53 7835 Q := by
  by_cases hz : xs (i + 3) = 0
  · simp only [fs164_580, fs164_581, fs164_582, fs164_583, fs164_584, fs164_585, fs164_586, fs164_587, fs164_588, fs164_589, fs164_590, fs164_591, fs164_592, fs164_593, fs164_594, fs164_595, fs164_596, fs164_599, fs164_600, fs164_603, fs164_604, fj_OB, fj_AR, fj_CI, q_zo0, q_zo1, Option.toList_some, Option.toList_none, List.cons_append, List.nil_append, true_and, and_true, true_or, if_true, if_false, q_l10, q_l01, eq_self, Int32.reduceLT, Int32.reduceLE, Int32.reduceAdd, Int32.reduceSub, fj_up_at, Nat.reduceEqDiff, false_and, and_false, and_self, reduceCtorEq, Nat.reduceAdd, k_i i, q_in (show i + 1 < L by omega), q_clamp (show i + 1 < 100000 by omega), q_in (show i + 2 < L by omega), q_clamp (show i + 2 < 100000 by omega), q_in (show i + 3 < L by omega), q_clamp (show i + 3 < 100000 by omega), eq_true hz]
    refine pr_use (pr_reading0 h (xs (i + 1)) (xs (i + 2))) (fun r M1 P1 ok e3 => ?_)
    obtain ⟨w, rfl⟩ := ok
    simp only [fs164_607, fs164_608, fs164_609, fs164_610, fs164_611, fs164_612, fs164_613, fs164_614, fs164_615, fs164_616, fs164_617, fs164_618, fs164_619, fs164_620, fs164_621, fs164_622, fs164_623, fs164_626, fs164_627, fs164_630, fs164_631, fj_OB, fj_AR, fj_CI, q_zo0, q_zo1, Option.toList_some, Option.toList_none, List.cons_append, List.nil_append, true_and, and_true, true_or, if_true, if_false, q_l10, q_l01, eq_self, Int32.reduceLT, Int32.reduceLE, Int32.reduceAdd, Int32.reduceSub, fj_up_at, Nat.reduceEqDiff, false_and, and_false, and_self, reduceCtorEq, Nat.reduceAdd, k_i i, q_in (show i + 1 < L by omega), q_clamp (show i + 1 < 100000 by omega), q_in (show i + 2 < L by omega), q_clamp (show i + 2 < 100000 by omega), q_in (show i + 3 < L by omega), q_clamp (show i + 3 < 100000 by omega), eq_true hz]
    refine fj_H_mono e3 (fun r2 M2 P2 c2 z2 ⟨f1, f2, f3, f4, t2, f5, f6⟩ => ?_)
    subst f1
    subst f2
    subst f3
    subst f5
    simp only [fs164_634, fs164_1129, fs164_1132, fj_OB, fj_AR, fj_CI, q_zo0, q_zo1, Option.toList_some, Option.toList_none, List.cons_append, List.nil_append, true_and, and_true, true_or, if_true, if_false, q_l10, q_l01, eq_self, Int32.reduceLT, Int32.reduceLE, Int32.reduceAdd, Int32.reduceSub, fj_up_at, Nat.reduceEqDiff, false_and, and_false, and_self, reduceCtorEq, Nat.reduceAdd, k_i i]
    exact nx t2 M2 f6
  · simp only [fs164_580, fs164_581, fs164_582, fs164_583, fs164_584, fs164_585, fs164_586, fs164_587, fs164_588, fs164_589, fs164_590, fs164_591, fs164_592, fs164_593, fs164_594, fs164_595, fs164_596, fs164_599, fs164_600, fs164_603, fs164_604, fj_OB, fj_AR, fj_CI, q_zo0, q_zo1, Option.toList_some, Option.toList_none, List.cons_append, List.nil_append, true_and, and_true, true_or, if_true, if_false, q_l10, q_l01, eq_self, Int32.reduceLT, Int32.reduceLE, Int32.reduceAdd, Int32.reduceSub, fj_up_at, Nat.reduceEqDiff, false_and, and_false, and_self, reduceCtorEq, Nat.reduceAdd, k_i i, q_in (show i + 1 < L by omega), q_clamp (show i + 1 < 100000 by omega), q_in (show i + 2 < L by omega), q_clamp (show i + 2 < 100000 by omega), q_in (show i + 3 < L by omega), q_clamp (show i + 3 < 100000 by omega), eq_false hz]
    refine pr_use (pr_reading1 h (xs (i + 1)) (xs (i + 2))) (fun r M1 P1 ok e3 => ?_)
    obtain ⟨w, rfl⟩ := ok
    simp only [fs164_607, fs164_608, fs164_609, fs164_610, fs164_611, fs164_612, fs164_613, fs164_614, fs164_615, fs164_616, fs164_617, fs164_618, fs164_619, fs164_620, fs164_621, fs164_622, fs164_623, fs164_626, fs164_627, fs164_630, fs164_631, fj_OB, fj_AR, fj_CI, q_zo0, q_zo1, Option.toList_some, Option.toList_none, List.cons_append, List.nil_append, true_and, and_true, true_or, if_true, if_false, q_l10, q_l01, eq_self, Int32.reduceLT, Int32.reduceLE, Int32.reduceAdd, Int32.reduceSub, fj_up_at, Nat.reduceEqDiff, false_and, and_false, and_self, reduceCtorEq, Nat.reduceAdd, k_i i, q_in (show i + 1 < L by omega), q_clamp (show i + 1 < 100000 by omega), q_in (show i + 2 < L by omega), q_clamp (show i + 2 < 100000 by omega), q_in (show i + 3 < L by omega), q_clamp (show i + 3 < 100000 by omega), eq_false hz]
    refine fj_H_mono e3 (fun r2 M2 P2 c2 z2 ⟨f1, f2, f3, f4, t2, f5, f6⟩ => ?_)
    subst f1
    subst f2
    subst f3
    subst f5
    simp only [fs164_634, fs164_1129, fs164_1132, fj_OB, fj_AR, fj_CI, q_zo0, q_zo1, Option.toList_some, Option.toList_none, List.cons_append, List.nil_append, true_and, and_true, true_or, if_true, if_false, q_l10, q_l01, eq_self, Int32.reduceLT, Int32.reduceLE, Int32.reduceAdd, Int32.reduceSub, fj_up_at, Nat.reduceEqDiff, false_and, and_false, and_self, reduceCtorEq, Nat.reduceAdd, k_i i]
    exact nx t2 M2 f6
theorem law_15 {L : Nat} {xs : Nat → Int32} {i : Nat} (hi : i + 6 ≤ L) (hL : L ≤ 3072) {t : Bool} {M : fj_HM} (h : fj_Iv t M) {Q : fj_Po} (nx : lwN L xs i Q) : fj_H (some (L, xs)) 164 639 [.float 0, .ref 0, .ref 33, .int (nI i)] [] M (fj_PY t) 53 7835 Q := by
  simp only [fs164_639, fs164_640, fs164_641, fs164_642, fs164_643, fs164_644, fs164_645, fj_OB, fj_AR, fj_CI, q_zo0, q_zo1, Option.toList_some, Option.toList_none, List.cons_append, List.nil_append, true_and, and_true, true_or, if_true, if_false, q_l10, q_l01, eq_self, Int32.reduceLT, Int32.reduceLE, Int32.reduceAdd, Int32.reduceSub, fj_up_at, Nat.reduceEqDiff, false_and, and_false, and_self, reduceCtorEq, Nat.reduceAdd, k_i i, q_in (show i + 1 < L by omega), q_clamp (show i + 1 < 100000 by omega)]
  refine pr_use (pr_back h (xs (i + 1))) (fun r M1 P1 ok e3 => ?_)
  obtain ⟨w, rfl⟩ := ok
  simp only [fs164_648, fs164_649, fs164_650, fs164_651, fs164_652, fs164_653, fs164_654, fj_OB, fj_AR, fj_CI, q_zo0, q_zo1, Option.toList_some, Option.toList_none, List.cons_append, List.nil_append, true_and, and_true, true_or, if_true, if_false, q_l10, q_l01, eq_self, Int32.reduceLT, Int32.reduceLE, Int32.reduceAdd, Int32.reduceSub, fj_up_at, Nat.reduceEqDiff, false_and, and_false, and_self, reduceCtorEq, Nat.reduceAdd, k_i i, q_in (show i + 1 < L by omega), q_clamp (show i + 1 < 100000 by omega)]
  refine fj_H_mono e3 (fun r2 M2 P2 c2 z2 ⟨f1, f2, f3, f4, t2, f5, f6⟩ => ?_)
  subst f1
  subst f2
  subst f3
  subst f5
  simp only [fs164_657, fs164_1129, fs164_1132, fj_OB, fj_AR, fj_CI, q_zo0, q_zo1, Option.toList_some, Option.toList_none, List.cons_append, List.nil_append, true_and, and_true, true_or, if_true, if_false, q_l10, q_l01, eq_self, Int32.reduceLT, Int32.reduceLE, Int32.reduceAdd, Int32.reduceSub, fj_up_at, Nat.reduceEqDiff, false_and, and_false, and_self, reduceCtorEq, Nat.reduceAdd, k_i i]
  exact nx t2 M2 f6
theorem law_16 {L : Nat} {xs : Nat → Int32} {i : Nat} (hi : i + 6 ≤ L) (hL : L ≤ 3072) {t : Bool} {M : fj_HM} (h : fj_Iv t M) {Q : fj_Po} (nx : lwN L xs i Q) : fj_H (some (L, xs)) 164 662 [.float 0, .ref 0, .ref 33, .int (nI i)] [] M (fj_PY t) 53 7835 Q := by
  simp only [fs164_662, fs164_663, fj_OB, fj_AR, fj_CI, q_zo0, q_zo1, Option.toList_some, Option.toList_none, List.cons_append, List.nil_append, true_and, and_true, true_or, if_true, if_false, q_l10, q_l01, eq_self, Int32.reduceLT, Int32.reduceLE, Int32.reduceAdd, Int32.reduceSub, fj_up_at, Nat.reduceEqDiff, false_and, and_false, and_self, reduceCtorEq, Nat.reduceAdd, k_i i]
  refine pr_use (pr_holds h ) (fun r M1 P1 ok e3 => ?_)
  obtain ⟨w, rfl⟩ := ok
  simp only [fs164_666, fs164_667, fj_OB, fj_AR, fj_CI, q_zo0, q_zo1, Option.toList_some, Option.toList_none, List.cons_append, List.nil_append, true_and, and_true, true_or, if_true, if_false, q_l10, q_l01, eq_self, Int32.reduceLT, Int32.reduceLE, Int32.reduceAdd, Int32.reduceSub, fj_up_at, Nat.reduceEqDiff, false_and, and_false, and_self, reduceCtorEq, Nat.reduceAdd, k_i i]
  refine fj_H_mono e3 (fun r2 M2 P2 c2 z2 ⟨f1, f2, f3, f4, t2, f5, f6⟩ => ?_)
  subst f1
  subst f2
  subst f3
  subst f5
  simp only [fs164_670, fs164_1129, fs164_1132, fj_OB, fj_AR, fj_CI, q_zo0, q_zo1, Option.toList_some, Option.toList_none, List.cons_append, List.nil_append, true_and, and_true, true_or, if_true, if_false, q_l10, q_l01, eq_self, Int32.reduceLT, Int32.reduceLE, Int32.reduceAdd, Int32.reduceSub, fj_up_at, Nat.reduceEqDiff, false_and, and_false, and_self, reduceCtorEq, Nat.reduceAdd, k_i i]
  exact nx t2 M2 f6
theorem law_17 {L : Nat} {xs : Nat → Int32} {i : Nat} (hi : i + 6 ≤ L) (hL : L ≤ 3072) {t : Bool} {M : fj_HM} (h : fj_Iv t M) {Q : fj_Po} (nx : lwN L xs i Q) : fj_H (some (L, xs)) 164 675 [.float 0, .ref 0, .ref 33, .int (nI i)] [] M (fj_PY t) 53 7835 Q := by
  simp only [fs164_675, fs164_676, fs164_677, fs164_678, fs164_679, fs164_680, fs164_681, fj_OB, fj_AR, fj_CI, q_zo0, q_zo1, Option.toList_some, Option.toList_none, List.cons_append, List.nil_append, true_and, and_true, true_or, if_true, if_false, q_l10, q_l01, eq_self, Int32.reduceLT, Int32.reduceLE, Int32.reduceAdd, Int32.reduceSub, fj_up_at, Nat.reduceEqDiff, false_and, and_false, and_self, reduceCtorEq, Nat.reduceAdd, k_i i, q_in (show i + 1 < L by omega), q_clamp (show i + 1 < 100000 by omega)]
  refine pr_use (pr_hearing h (xs (i + 1))) (fun r M1 P1 ok e3 => ?_)
  obtain ⟨w, rfl⟩ := ok
  simp only [fs164_684, fs164_685, fs164_686, fs164_687, fs164_688, fs164_689, fs164_690, fj_OB, fj_AR, fj_CI, q_zo0, q_zo1, Option.toList_some, Option.toList_none, List.cons_append, List.nil_append, true_and, and_true, true_or, if_true, if_false, q_l10, q_l01, eq_self, Int32.reduceLT, Int32.reduceLE, Int32.reduceAdd, Int32.reduceSub, fj_up_at, Nat.reduceEqDiff, false_and, and_false, and_self, reduceCtorEq, Nat.reduceAdd, k_i i, q_in (show i + 1 < L by omega), q_clamp (show i + 1 < 100000 by omega)]
  refine fj_H_mono e3 (fun r2 M2 P2 c2 z2 ⟨f1, f2, f3, f4, t2, f5, f6⟩ => ?_)
  subst f1
  subst f2
  subst f3
  subst f5
  simp only [fs164_693, fs164_1129, fs164_1132, fj_OB, fj_AR, fj_CI, q_zo0, q_zo1, Option.toList_some, Option.toList_none, List.cons_append, List.nil_append, true_and, and_true, true_or, if_true, if_false, q_l10, q_l01, eq_self, Int32.reduceLT, Int32.reduceLE, Int32.reduceAdd, Int32.reduceSub, fj_up_at, Nat.reduceEqDiff, false_and, and_false, and_self, reduceCtorEq, Nat.reduceAdd, k_i i]
  exact nx t2 M2 f6
theorem law_18 {L : Nat} {xs : Nat → Int32} {i : Nat} (hi : i + 6 ≤ L) (hL : L ≤ 3072) {t : Bool} {M : fj_HM} (h : fj_Iv t M) {Q : fj_Po} (nx : lwN L xs i Q) : fj_H (some (L, xs)) 164 698 [.float 0, .ref 0, .ref 33, .int (nI i)] [] M (fj_PY t) 53 7835 Q := by
  simp only [fs164_698, fs164_699, fs164_700, fs164_701, fs164_702, fs164_703, fs164_704, fj_OB, fj_AR, fj_CI, q_zo0, q_zo1, Option.toList_some, Option.toList_none, List.cons_append, List.nil_append, true_and, and_true, true_or, if_true, if_false, q_l10, q_l01, eq_self, Int32.reduceLT, Int32.reduceLE, Int32.reduceAdd, Int32.reduceSub, fj_up_at, Nat.reduceEqDiff, false_and, and_false, and_self, reduceCtorEq, Nat.reduceAdd, k_i i, q_in (show i + 1 < L by omega), q_clamp (show i + 1 < 100000 by omega)]
  refine pr_use (pr_kinds h (xs (i + 1))) (fun r M1 P1 ok e3 => ?_)
  obtain ⟨w, rfl⟩ := ok
  simp only [fs164_707, fs164_708, fs164_709, fs164_710, fs164_711, fs164_712, fs164_713, fj_OB, fj_AR, fj_CI, q_zo0, q_zo1, Option.toList_some, Option.toList_none, List.cons_append, List.nil_append, true_and, and_true, true_or, if_true, if_false, q_l10, q_l01, eq_self, Int32.reduceLT, Int32.reduceLE, Int32.reduceAdd, Int32.reduceSub, fj_up_at, Nat.reduceEqDiff, false_and, and_false, and_self, reduceCtorEq, Nat.reduceAdd, k_i i, q_in (show i + 1 < L by omega), q_clamp (show i + 1 < 100000 by omega)]
  refine fj_H_mono e3 (fun r2 M2 P2 c2 z2 ⟨f1, f2, f3, f4, t2, f5, f6⟩ => ?_)
  subst f1
  subst f2
  subst f3
  subst f5
  simp only [fs164_716, fs164_1129, fs164_1132, fj_OB, fj_AR, fj_CI, q_zo0, q_zo1, Option.toList_some, Option.toList_none, List.cons_append, List.nil_append, true_and, and_true, true_or, if_true, if_false, q_l10, q_l01, eq_self, Int32.reduceLT, Int32.reduceLE, Int32.reduceAdd, Int32.reduceSub, fj_up_at, Nat.reduceEqDiff, false_and, and_false, and_self, reduceCtorEq, Nat.reduceAdd, k_i i]
  exact nx t2 M2 f6
theorem law_19 {L : Nat} {xs : Nat → Int32} {i : Nat} (hi : i + 6 ≤ L) (hL : L ≤ 3072) {t : Bool} {M : fj_HM} (h : fj_Iv t M) {Q : fj_Po} (nx : lwN L xs i Q) : fj_H (some (L, xs)) 164 721 [.float 0, .ref 0, .ref 33, .int (nI i)] [] M (fj_PY t) 53 7835 Q := by
  simp only [fs164_721, fs164_722, fs164_723, fs164_724, fs164_725, fs164_726, fs164_727, fs164_728, fs164_729, fs164_730, fs164_731, fs164_732, fs164_733, fs164_734, fs164_735, fs164_736, fs164_737, fs164_738, fs164_739, fs164_740, fs164_741, fs164_742, fs164_743, fs164_744, fs164_745, fs164_746, fs164_747, fj_OB, fj_AR, fj_CI, q_zo0, q_zo1, Option.toList_some, Option.toList_none, List.cons_append, List.nil_append, true_and, and_true, true_or, if_true, if_false, q_l10, q_l01, eq_self, Int32.reduceLT, Int32.reduceLE, Int32.reduceAdd, Int32.reduceSub, fj_up_at, Nat.reduceEqDiff, false_and, and_false, and_self, reduceCtorEq, Nat.reduceAdd, k_i i, q_in (show i + 1 < L by omega), q_clamp (show i + 1 < 100000 by omega), q_in (show i + 2 < L by omega), q_clamp (show i + 2 < 100000 by omega), q_in (show i + 3 < L by omega), q_clamp (show i + 3 < 100000 by omega), q_in (show i + 4 < L by omega), q_clamp (show i + 4 < 100000 by omega), q_in (show i + 5 < L by omega), q_clamp (show i + 5 < 100000 by omega)]
  refine pr_use (pr_odds h (xs (i + 1)) (xs (i + 2)) (xs (i + 3)) (xs (i + 4)) (xs (i + 5))) (fun r M1 P1 ok e3 => ?_)
  obtain ⟨w, rfl⟩ := ok
  simp only [fs164_750, fs164_751, fs164_752, fs164_753, fs164_754, fs164_755, fs164_756, fs164_757, fs164_758, fs164_759, fs164_760, fs164_761, fs164_762, fs164_763, fs164_764, fs164_765, fs164_766, fs164_767, fs164_768, fs164_769, fs164_770, fs164_771, fs164_772, fs164_773, fs164_774, fs164_775, fs164_776, fj_OB, fj_AR, fj_CI, q_zo0, q_zo1, Option.toList_some, Option.toList_none, List.cons_append, List.nil_append, true_and, and_true, true_or, if_true, if_false, q_l10, q_l01, eq_self, Int32.reduceLT, Int32.reduceLE, Int32.reduceAdd, Int32.reduceSub, fj_up_at, Nat.reduceEqDiff, false_and, and_false, and_self, reduceCtorEq, Nat.reduceAdd, k_i i, q_in (show i + 1 < L by omega), q_clamp (show i + 1 < 100000 by omega), q_in (show i + 2 < L by omega), q_clamp (show i + 2 < 100000 by omega), q_in (show i + 3 < L by omega), q_clamp (show i + 3 < 100000 by omega), q_in (show i + 4 < L by omega), q_clamp (show i + 4 < 100000 by omega), q_in (show i + 5 < L by omega), q_clamp (show i + 5 < 100000 by omega)]
  refine fj_H_mono e3 (fun r2 M2 P2 c2 z2 ⟨f1, f2, f3, f4, t2, f5, f6⟩ => ?_)
  subst f1
  subst f2
  subst f3
  subst f5
  simp only [fs164_779, fs164_780, fs164_1129, fs164_1132, fj_OB, fj_AR, fj_CI, q_zo0, q_zo1, Option.toList_some, Option.toList_none, List.cons_append, List.nil_append, true_and, and_true, true_or, if_true, if_false, q_l10, q_l01, eq_self, Int32.reduceLT, Int32.reduceLE, Int32.reduceAdd, Int32.reduceSub, fj_up_at, Nat.reduceEqDiff, false_and, and_false, and_self, reduceCtorEq, Nat.reduceAdd, k_i i, lgc_eq]
  exact nx t2 M2 f6
theorem law_20 {L : Nat} {xs : Nat → Int32} {i : Nat} (hi : i + 6 ≤ L) (hL : L ≤ 3072) {t : Bool} {M : fj_HM} (h : fj_Iv t M) {Q : fj_Po} (nx : lwN L xs i Q) : fj_H (some (L, xs)) 164 785 [.float 0, .ref 0, .ref 33, .int (nI i)] [] M (fj_PY t) 53 7835 Q := by
  simp only [fs164_785, fs164_786, fs164_787, fs164_788, fs164_789, fs164_790, fs164_791, fs164_792, fs164_793, fs164_794, fs164_795, fs164_796, fs164_797, fs164_798, fs164_799, fs164_800, fs164_801, fj_OB, fj_AR, fj_CI, q_zo0, q_zo1, Option.toList_some, Option.toList_none, List.cons_append, List.nil_append, true_and, and_true, true_or, if_true, if_false, q_l10, q_l01, eq_self, Int32.reduceLT, Int32.reduceLE, Int32.reduceAdd, Int32.reduceSub, fj_up_at, Nat.reduceEqDiff, false_and, and_false, and_self, reduceCtorEq, Nat.reduceAdd, k_i i, q_in (show i + 1 < L by omega), q_clamp (show i + 1 < 100000 by omega), q_in (show i + 2 < L by omega), q_clamp (show i + 2 < 100000 by omega), q_in (show i + 3 < L by omega), q_clamp (show i + 3 < 100000 by omega)]
  refine pr_use (pr_sheet h (xs (i + 1)) (xs (i + 2)) (xs (i + 3))) (fun r M1 P1 ok e3 => ?_)
  obtain ⟨w, rfl⟩ := ok
  simp only [fs164_804, fs164_805, fs164_806, fs164_807, fs164_808, fs164_809, fs164_810, fs164_811, fs164_812, fs164_813, fs164_814, fs164_815, fs164_816, fs164_817, fs164_818, fs164_819, fs164_820, fj_OB, fj_AR, fj_CI, q_zo0, q_zo1, Option.toList_some, Option.toList_none, List.cons_append, List.nil_append, true_and, and_true, true_or, if_true, if_false, q_l10, q_l01, eq_self, Int32.reduceLT, Int32.reduceLE, Int32.reduceAdd, Int32.reduceSub, fj_up_at, Nat.reduceEqDiff, false_and, and_false, and_self, reduceCtorEq, Nat.reduceAdd, k_i i, q_in (show i + 1 < L by omega), q_clamp (show i + 1 < 100000 by omega), q_in (show i + 2 < L by omega), q_clamp (show i + 2 < 100000 by omega), q_in (show i + 3 < L by omega), q_clamp (show i + 3 < 100000 by omega)]
  refine fj_H_mono e3 (fun r2 M2 P2 c2 z2 ⟨f1, f2, f3, f4, t2, f5, f6⟩ => ?_)
  subst f1
  subst f2
  subst f3
  subst f5
  simp only [fs164_823, fs164_1129, fs164_1132, fj_OB, fj_AR, fj_CI, q_zo0, q_zo1, Option.toList_some, Option.toList_none, List.cons_append, List.nil_append, true_and, and_true, true_or, if_true, if_false, q_l10, q_l01, eq_self, Int32.reduceLT, Int32.reduceLE, Int32.reduceAdd, Int32.reduceSub, fj_up_at, Nat.reduceEqDiff, false_and, and_false, and_self, reduceCtorEq, Nat.reduceAdd, k_i i]
  exact nx t2 M2 f6
theorem law_21 {L : Nat} {xs : Nat → Int32} {i : Nat} (hi : i + 6 ≤ L) (hL : L ≤ 3072) {t : Bool} {M : fj_HM} (h : fj_Iv t M) {Q : fj_Po} (nx : lwN L xs i Q) : fj_H (some (L, xs)) 164 828 [.float 0, .ref 0, .ref 33, .int (nI i)] [] M (fj_PY t) 53 7835 Q := by
  simp only [fs164_828, fs164_829, fs164_830, fs164_831, fs164_832, fs164_833, fs164_834, fj_OB, fj_AR, fj_CI, q_zo0, q_zo1, Option.toList_some, Option.toList_none, List.cons_append, List.nil_append, true_and, and_true, true_or, if_true, if_false, q_l10, q_l01, eq_self, Int32.reduceLT, Int32.reduceLE, Int32.reduceAdd, Int32.reduceSub, fj_up_at, Nat.reduceEqDiff, false_and, and_false, and_self, reduceCtorEq, Nat.reduceAdd, k_i i, q_in (show i + 1 < L by omega), q_clamp (show i + 1 < 100000 by omega)]
  refine pr_use (pr_lose h (xs (i + 1))) (fun r M1 P1 ok e3 => ?_)
  obtain ⟨w, rfl⟩ := ok
  simp only [fs164_837, fs164_838, fs164_839, fs164_840, fs164_841, fs164_842, fs164_843, fj_OB, fj_AR, fj_CI, q_zo0, q_zo1, Option.toList_some, Option.toList_none, List.cons_append, List.nil_append, true_and, and_true, true_or, if_true, if_false, q_l10, q_l01, eq_self, Int32.reduceLT, Int32.reduceLE, Int32.reduceAdd, Int32.reduceSub, fj_up_at, Nat.reduceEqDiff, false_and, and_false, and_self, reduceCtorEq, Nat.reduceAdd, k_i i, q_in (show i + 1 < L by omega), q_clamp (show i + 1 < 100000 by omega)]
  refine fj_H_mono e3 (fun r2 M2 P2 c2 z2 ⟨f1, f2, f3, f4, t2, f5, f6⟩ => ?_)
  subst f1
  subst f2
  subst f3
  subst f5
  simp only [fs164_846, fs164_1129, fs164_1132, fj_OB, fj_AR, fj_CI, q_zo0, q_zo1, Option.toList_some, Option.toList_none, List.cons_append, List.nil_append, true_and, and_true, true_or, if_true, if_false, q_l10, q_l01, eq_self, Int32.reduceLT, Int32.reduceLE, Int32.reduceAdd, Int32.reduceSub, fj_up_at, Nat.reduceEqDiff, false_and, and_false, and_self, reduceCtorEq, Nat.reduceAdd, k_i i]
  exact nx t2 M2 f6
theorem law_22 {L : Nat} {xs : Nat → Int32} {i : Nat} (hi : i + 6 ≤ L) (hL : L ≤ 3072) {t : Bool} {M : fj_HM} (h : fj_Iv t M) {Q : fj_Po} (nx : lwN L xs i Q) : fj_H (some (L, xs)) 164 851 [.float 0, .ref 0, .ref 33, .int (nI i)] [] M (fj_PY t) 53 7835 Q := by
  simp only [fs164_851, fs164_852, fs164_853, fs164_854, fs164_855, fs164_856, fs164_857, fs164_858, fs164_859, fs164_860, fs164_861, fs164_862, fs164_863, fs164_864, fs164_865, fs164_866, fs164_867, fj_OB, fj_AR, fj_CI, q_zo0, q_zo1, Option.toList_some, Option.toList_none, List.cons_append, List.nil_append, true_and, and_true, true_or, if_true, if_false, q_l10, q_l01, eq_self, Int32.reduceLT, Int32.reduceLE, Int32.reduceAdd, Int32.reduceSub, fj_up_at, Nat.reduceEqDiff, false_and, and_false, and_self, reduceCtorEq, Nat.reduceAdd, k_i i, q_in (show i + 1 < L by omega), q_clamp (show i + 1 < 100000 by omega), q_in (show i + 2 < L by omega), q_clamp (show i + 2 < 100000 by omega), q_in (show i + 3 < L by omega), q_clamp (show i + 3 < 100000 by omega)]
  refine pr_use (pr_put h (xs (i + 1)) (xs (i + 2)) (xs (i + 3))) (fun r M1 P1 ok e3 => ?_)
  obtain ⟨w, rfl⟩ := ok
  simp only [fs164_870, fs164_871, fs164_872, fs164_873, fs164_874, fs164_875, fs164_876, fs164_877, fs164_878, fs164_879, fs164_880, fs164_881, fs164_882, fs164_883, fs164_884, fs164_885, fs164_886, fj_OB, fj_AR, fj_CI, q_zo0, q_zo1, Option.toList_some, Option.toList_none, List.cons_append, List.nil_append, true_and, and_true, true_or, if_true, if_false, q_l10, q_l01, eq_self, Int32.reduceLT, Int32.reduceLE, Int32.reduceAdd, Int32.reduceSub, fj_up_at, Nat.reduceEqDiff, false_and, and_false, and_self, reduceCtorEq, Nat.reduceAdd, k_i i, q_in (show i + 1 < L by omega), q_clamp (show i + 1 < 100000 by omega), q_in (show i + 2 < L by omega), q_clamp (show i + 2 < 100000 by omega), q_in (show i + 3 < L by omega), q_clamp (show i + 3 < 100000 by omega)]
  refine fj_H_mono e3 (fun r2 M2 P2 c2 z2 ⟨f1, f2, f3, f4, t2, f5, f6⟩ => ?_)
  subst f1
  subst f2
  subst f3
  subst f5
  simp only [fs164_889, fs164_1129, fs164_1132, fj_OB, fj_AR, fj_CI, q_zo0, q_zo1, Option.toList_some, Option.toList_none, List.cons_append, List.nil_append, true_and, and_true, true_or, if_true, if_false, q_l10, q_l01, eq_self, Int32.reduceLT, Int32.reduceLE, Int32.reduceAdd, Int32.reduceSub, fj_up_at, Nat.reduceEqDiff, false_and, and_false, and_self, reduceCtorEq, Nat.reduceAdd, k_i i]
  exact nx t2 M2 f6
theorem law_23 {L : Nat} {xs : Nat → Int32} {i : Nat} (hi : i + 6 ≤ L) (hL : L ≤ 3072) {t : Bool} {M : fj_HM} (h : fj_Iv t M) {Q : fj_Po} (nx : lwN L xs i Q) : fj_H (some (L, xs)) 164 894 [.float 0, .ref 0, .ref 33, .int (nI i)] [] M (fj_PY t) 53 7835 Q := by
  simp only [fs164_894, fs164_895, fs164_896, fs164_897, fs164_898, fs164_899, fs164_900, fs164_901, fs164_902, fs164_903, fs164_904, fs164_905, fs164_906, fs164_907, fs164_908, fs164_909, fs164_910, fj_OB, fj_AR, fj_CI, q_zo0, q_zo1, Option.toList_some, Option.toList_none, List.cons_append, List.nil_append, true_and, and_true, true_or, if_true, if_false, q_l10, q_l01, eq_self, Int32.reduceLT, Int32.reduceLE, Int32.reduceAdd, Int32.reduceSub, fj_up_at, Nat.reduceEqDiff, false_and, and_false, and_self, reduceCtorEq, Nat.reduceAdd, k_i i, q_in (show i + 1 < L by omega), q_clamp (show i + 1 < 100000 by omega), q_in (show i + 2 < L by omega), q_clamp (show i + 2 < 100000 by omega), q_in (show i + 3 < L by omega), q_clamp (show i + 3 < 100000 by omega)]
  refine pr_use (pr_cell h (xs (i + 1)) (xs (i + 2)) (xs (i + 3))) (fun r M1 P1 ok e3 => ?_)
  obtain ⟨w, rfl⟩ := ok
  simp only [fs164_913, fs164_914, fs164_915, fs164_916, fs164_917, fs164_918, fs164_919, fs164_920, fs164_921, fs164_922, fs164_923, fs164_924, fs164_925, fs164_926, fs164_927, fs164_928, fs164_929, fj_OB, fj_AR, fj_CI, q_zo0, q_zo1, Option.toList_some, Option.toList_none, List.cons_append, List.nil_append, true_and, and_true, true_or, if_true, if_false, q_l10, q_l01, eq_self, Int32.reduceLT, Int32.reduceLE, Int32.reduceAdd, Int32.reduceSub, fj_up_at, Nat.reduceEqDiff, false_and, and_false, and_self, reduceCtorEq, Nat.reduceAdd, k_i i, q_in (show i + 1 < L by omega), q_clamp (show i + 1 < 100000 by omega), q_in (show i + 2 < L by omega), q_clamp (show i + 2 < 100000 by omega), q_in (show i + 3 < L by omega), q_clamp (show i + 3 < 100000 by omega)]
  refine fj_H_mono e3 (fun r2 M2 P2 c2 z2 ⟨f1, f2, f3, f4, t2, f5, f6⟩ => ?_)
  subst f1
  subst f2
  subst f3
  subst f5
  simp only [fs164_932, fs164_933, fs164_1129, fs164_1132, fj_OB, fj_AR, fj_CI, q_zo0, q_zo1, Option.toList_some, Option.toList_none, List.cons_append, List.nil_append, true_and, and_true, true_or, if_true, if_false, q_l10, q_l01, eq_self, Int32.reduceLT, Int32.reduceLE, Int32.reduceAdd, Int32.reduceSub, fj_up_at, Nat.reduceEqDiff, false_and, and_false, and_self, reduceCtorEq, Nat.reduceAdd, k_i i, lgc_eq]
  exact nx t2 M2 f6
theorem law_24 {L : Nat} {xs : Nat → Int32} {i : Nat} (hi : i + 6 ≤ L) (hL : L ≤ 3072) {t : Bool} {M : fj_HM} (h : fj_Iv t M) {Q : fj_Po} (nx : lwN L xs i Q) : fj_H (some (L, xs)) 164 938 [.float 0, .ref 0, .ref 33, .int (nI i)] [] M (fj_PY t) 53 7835 Q := by
  simp only [fs164_938, fs164_939, fs164_940, fs164_941, fs164_942, fs164_943, fs164_944, fs164_945, fs164_946, fs164_947, fs164_948, fs164_949, fs164_950, fs164_951, fs164_952, fs164_953, fs164_954, fs164_955, fs164_956, fs164_957, fs164_958, fs164_959, fs164_960, fs164_961, fs164_962, fs164_963, fs164_964, fj_OB, fj_AR, fj_CI, q_zo0, q_zo1, Option.toList_some, Option.toList_none, List.cons_append, List.nil_append, true_and, and_true, true_or, if_true, if_false, q_l10, q_l01, eq_self, Int32.reduceLT, Int32.reduceLE, Int32.reduceAdd, Int32.reduceSub, fj_up_at, Nat.reduceEqDiff, false_and, and_false, and_self, reduceCtorEq, Nat.reduceAdd, k_i i, q_in (show i + 1 < L by omega), q_clamp (show i + 1 < 100000 by omega), q_in (show i + 2 < L by omega), q_clamp (show i + 2 < 100000 by omega), q_in (show i + 3 < L by omega), q_clamp (show i + 3 < 100000 by omega), q_in (show i + 4 < L by omega), q_clamp (show i + 4 < 100000 by omega), q_in (show i + 5 < L by omega), q_clamp (show i + 5 < 100000 by omega)]
  refine pr_use (pr_copy h (xs (i + 1)) (xs (i + 2)) (xs (i + 3)) (xs (i + 4)) (xs (i + 5))) (fun r M1 P1 ok e3 => ?_)
  obtain ⟨w, rfl⟩ := ok
  simp only [fs164_967, fs164_968, fs164_969, fs164_970, fs164_971, fs164_972, fs164_973, fs164_974, fs164_975, fs164_976, fs164_977, fs164_978, fs164_979, fs164_980, fs164_981, fs164_982, fs164_983, fs164_984, fs164_985, fs164_986, fs164_987, fs164_988, fs164_989, fs164_990, fs164_991, fs164_992, fs164_993, fj_OB, fj_AR, fj_CI, q_zo0, q_zo1, Option.toList_some, Option.toList_none, List.cons_append, List.nil_append, true_and, and_true, true_or, if_true, if_false, q_l10, q_l01, eq_self, Int32.reduceLT, Int32.reduceLE, Int32.reduceAdd, Int32.reduceSub, fj_up_at, Nat.reduceEqDiff, false_and, and_false, and_self, reduceCtorEq, Nat.reduceAdd, k_i i, q_in (show i + 1 < L by omega), q_clamp (show i + 1 < 100000 by omega), q_in (show i + 2 < L by omega), q_clamp (show i + 2 < 100000 by omega), q_in (show i + 3 < L by omega), q_clamp (show i + 3 < 100000 by omega), q_in (show i + 4 < L by omega), q_clamp (show i + 4 < 100000 by omega), q_in (show i + 5 < L by omega), q_clamp (show i + 5 < 100000 by omega)]
  refine fj_H_mono e3 (fun r2 M2 P2 c2 z2 ⟨f1, f2, f3, f4, t2, f5, f6⟩ => ?_)
  subst f1
  subst f2
  subst f3
  subst f5
  simp only [fs164_996, fs164_1129, fs164_1132, fj_OB, fj_AR, fj_CI, q_zo0, q_zo1, Option.toList_some, Option.toList_none, List.cons_append, List.nil_append, true_and, and_true, true_or, if_true, if_false, q_l10, q_l01, eq_self, Int32.reduceLT, Int32.reduceLE, Int32.reduceAdd, Int32.reduceSub, fj_up_at, Nat.reduceEqDiff, false_and, and_false, and_self, reduceCtorEq, Nat.reduceAdd, k_i i]
  exact nx t2 M2 f6
theorem law_25 {L : Nat} {xs : Nat → Int32} {i : Nat} (hi : i + 6 ≤ L) (hL : L ≤ 3072) {t : Bool} {M : fj_HM} (h : fj_Iv t M) {Q : fj_Po} (nx : lwN L xs i Q) : fj_H (some (L, xs)) 164 1001 [.float 0, .ref 0, .ref 33, .int (nI i)] [] M (fj_PY t) 53 7835 Q := by
  simp only [fs164_1001, fs164_1002, fs164_1003, fs164_1004, fs164_1005, fs164_1006, fs164_1007, fj_OB, fj_AR, fj_CI, q_zo0, q_zo1, Option.toList_some, Option.toList_none, List.cons_append, List.nil_append, true_and, and_true, true_or, if_true, if_false, q_l10, q_l01, eq_self, Int32.reduceLT, Int32.reduceLE, Int32.reduceAdd, Int32.reduceSub, fj_up_at, Nat.reduceEqDiff, false_and, and_false, and_self, reduceCtorEq, Nat.reduceAdd, k_i i, q_in (show i + 1 < L by omega), q_clamp (show i + 1 < 100000 by omega)]
  refine pr_use (pr_tell h (xs (i + 1))) (fun r M1 P1 ok e3 => ?_)
  obtain ⟨w, rfl⟩ := ok
  simp only [fs164_1010, fs164_1011, fs164_1012, fs164_1013, fs164_1014, fs164_1015, fs164_1016, fj_OB, fj_AR, fj_CI, q_zo0, q_zo1, Option.toList_some, Option.toList_none, List.cons_append, List.nil_append, true_and, and_true, true_or, if_true, if_false, q_l10, q_l01, eq_self, Int32.reduceLT, Int32.reduceLE, Int32.reduceAdd, Int32.reduceSub, fj_up_at, Nat.reduceEqDiff, false_and, and_false, and_self, reduceCtorEq, Nat.reduceAdd, k_i i, q_in (show i + 1 < L by omega), q_clamp (show i + 1 < 100000 by omega)]
  refine fj_H_mono e3 (fun r2 M2 P2 c2 z2 ⟨f1, f2, f3, f4, t2, f5, f6⟩ => ?_)
  subst f1
  subst f2
  subst f3
  subst f5
  simp only [fs164_1019, fs164_1129, fs164_1132, fj_OB, fj_AR, fj_CI, q_zo0, q_zo1, Option.toList_some, Option.toList_none, List.cons_append, List.nil_append, true_and, and_true, true_or, if_true, if_false, q_l10, q_l01, eq_self, Int32.reduceLT, Int32.reduceLE, Int32.reduceAdd, Int32.reduceSub, fj_up_at, Nat.reduceEqDiff, false_and, and_false, and_self, reduceCtorEq, Nat.reduceAdd, k_i i]
  exact nx t2 M2 f6
theorem law_26 {L : Nat} {xs : Nat → Int32} {i : Nat} (hi : i + 6 ≤ L) (hL : L ≤ 3072) {t : Bool} {M : fj_HM} (h : fj_Iv t M) {Q : fj_Po} (nx : lwN L xs i Q) : fj_H (some (L, xs)) 164 1024 [.float 0, .ref 0, .ref 33, .int (nI i)] [] M (fj_PY t) 53 7835 Q := by
  simp only [fs164_1024, fs164_1025, fs164_1026, fs164_1027, fs164_1028, fs164_1029, fs164_1030, fj_OB, fj_AR, fj_CI, q_zo0, q_zo1, Option.toList_some, Option.toList_none, List.cons_append, List.nil_append, true_and, and_true, true_or, if_true, if_false, q_l10, q_l01, eq_self, Int32.reduceLT, Int32.reduceLE, Int32.reduceAdd, Int32.reduceSub, fj_up_at, Nat.reduceEqDiff, false_and, and_false, and_self, reduceCtorEq, Nat.reduceAdd, k_i i, q_in (show i + 1 < L by omega), q_clamp (show i + 1 < 100000 by omega)]
  refine pr_use (pr_ask h (xs (i + 1))) (fun r M1 P1 ok e3 => ?_)
  obtain ⟨w, rfl⟩ := ok
  simp only [fs164_1033, fs164_1034, fs164_1035, fs164_1036, fs164_1037, fs164_1038, fs164_1039, fj_OB, fj_AR, fj_CI, q_zo0, q_zo1, Option.toList_some, Option.toList_none, List.cons_append, List.nil_append, true_and, and_true, true_or, if_true, if_false, q_l10, q_l01, eq_self, Int32.reduceLT, Int32.reduceLE, Int32.reduceAdd, Int32.reduceSub, fj_up_at, Nat.reduceEqDiff, false_and, and_false, and_self, reduceCtorEq, Nat.reduceAdd, k_i i, q_in (show i + 1 < L by omega), q_clamp (show i + 1 < 100000 by omega)]
  refine fj_H_mono e3 (fun r2 M2 P2 c2 z2 ⟨f1, f2, f3, f4, t2, f5, f6⟩ => ?_)
  subst f1
  subst f2
  subst f3
  subst f5
  simp only [fs164_1042, fs164_1129, fs164_1132, fj_OB, fj_AR, fj_CI, q_zo0, q_zo1, Option.toList_some, Option.toList_none, List.cons_append, List.nil_append, true_and, and_true, true_or, if_true, if_false, q_l10, q_l01, eq_self, Int32.reduceLT, Int32.reduceLE, Int32.reduceAdd, Int32.reduceSub, fj_up_at, Nat.reduceEqDiff, false_and, and_false, and_self, reduceCtorEq, Nat.reduceAdd, k_i i]
  exact nx t2 M2 f6
theorem law_27 {L : Nat} {xs : Nat → Int32} {i : Nat} (hi : i + 6 ≤ L) (hL : L ≤ 3072) {t : Bool} {M : fj_HM} (h : fj_Iv t M) {Q : fj_Po} (nx : lwN L xs i Q) : fj_H (some (L, xs)) 164 1047 [.float 0, .ref 0, .ref 33, .int (nI i)] [] M (fj_PY t) 53 7835 Q := by
  simp only [fs164_1047, fs164_1048, fs164_1049, fs164_1050, fs164_1051, fs164_1052, fs164_1053, fs164_1054, fs164_1055, fs164_1056, fs164_1057, fs164_1058, fj_OB, fj_AR, fj_CI, q_zo0, q_zo1, Option.toList_some, Option.toList_none, List.cons_append, List.nil_append, true_and, and_true, true_or, if_true, if_false, q_l10, q_l01, eq_self, Int32.reduceLT, Int32.reduceLE, Int32.reduceAdd, Int32.reduceSub, fj_up_at, Nat.reduceEqDiff, false_and, and_false, and_self, reduceCtorEq, Nat.reduceAdd, k_i i, q_in (show i + 1 < L by omega), q_clamp (show i + 1 < 100000 by omega), q_in (show i + 2 < L by omega), q_clamp (show i + 2 < 100000 by omega)]
  refine pr_use (pr_as h (xs (i + 1)) (xs (i + 2))) (fun r M1 P1 ok e3 => ?_)
  obtain ⟨w, rfl⟩ := ok
  simp only [fs164_1061, fs164_1062, fs164_1063, fs164_1064, fs164_1065, fs164_1066, fs164_1067, fs164_1068, fs164_1069, fs164_1070, fs164_1071, fs164_1072, fj_OB, fj_AR, fj_CI, q_zo0, q_zo1, Option.toList_some, Option.toList_none, List.cons_append, List.nil_append, true_and, and_true, true_or, if_true, if_false, q_l10, q_l01, eq_self, Int32.reduceLT, Int32.reduceLE, Int32.reduceAdd, Int32.reduceSub, fj_up_at, Nat.reduceEqDiff, false_and, and_false, and_self, reduceCtorEq, Nat.reduceAdd, k_i i, q_in (show i + 1 < L by omega), q_clamp (show i + 1 < 100000 by omega), q_in (show i + 2 < L by omega), q_clamp (show i + 2 < 100000 by omega)]
  refine fj_H_mono e3 (fun r2 M2 P2 c2 z2 ⟨f1, f2, f3, f4, t2, f5, f6⟩ => ?_)
  subst f1
  subst f2
  subst f3
  subst f5
  simp only [fs164_1075, fs164_1129, fs164_1132, fj_OB, fj_AR, fj_CI, q_zo0, q_zo1, Option.toList_some, Option.toList_none, List.cons_append, List.nil_append, true_and, and_true, true_or, if_true, if_false, q_l10, q_l01, eq_self, Int32.reduceLT, Int32.reduceLE, Int32.reduceAdd, Int32.reduceSub, fj_up_at, Nat.reduceEqDiff, false_and, and_false, and_self, reduceCtorEq, Nat.reduceAdd, k_i i]
  exact nx t2 M2 f6
theorem law_28 {L : Nat} {xs : Nat → Int32} {i : Nat} (hi : i + 6 ≤ L) (hL : L ≤ 3072) {t : Bool} {M : fj_HM} (h : fj_Iv t M) {Q : fj_Po} (nx : lwN L xs i Q) : fj_H (some (L, xs)) 164 1080 [.float 0, .ref 0, .ref 33, .int (nI i)] [] M (fj_PY t) 53 7835 Q := by
  simp only [fs164_1080, fs164_1081, fj_OB, fj_AR, fj_CI, q_zo0, q_zo1, Option.toList_some, Option.toList_none, List.cons_append, List.nil_append, true_and, and_true, true_or, if_true, if_false, q_l10, q_l01, eq_self, Int32.reduceLT, Int32.reduceLE, Int32.reduceAdd, Int32.reduceSub, fj_up_at, Nat.reduceEqDiff, false_and, and_false, and_self, reduceCtorEq, Nat.reduceAdd, k_i i]
  refine pr_use (pr_trace h ) (fun r M1 P1 ok e3 => ?_)
  obtain ⟨w, rfl⟩ := ok
  simp only [fs164_1084, fs164_1085, fj_OB, fj_AR, fj_CI, q_zo0, q_zo1, Option.toList_some, Option.toList_none, List.cons_append, List.nil_append, true_and, and_true, true_or, if_true, if_false, q_l10, q_l01, eq_self, Int32.reduceLT, Int32.reduceLE, Int32.reduceAdd, Int32.reduceSub, fj_up_at, Nat.reduceEqDiff, false_and, and_false, and_self, reduceCtorEq, Nat.reduceAdd, k_i i]
  refine fj_H_mono e3 (fun r2 M2 P2 c2 z2 ⟨f1, f2, f3, f4, t2, f5, f6⟩ => ?_)
  subst f1
  subst f2
  subst f3
  subst f5
  simp only [fs164_1088, fs164_1129, fs164_1132, fj_OB, fj_AR, fj_CI, q_zo0, q_zo1, Option.toList_some, Option.toList_none, List.cons_append, List.nil_append, true_and, and_true, true_or, if_true, if_false, q_l10, q_l01, eq_self, Int32.reduceLT, Int32.reduceLE, Int32.reduceAdd, Int32.reduceSub, fj_up_at, Nat.reduceEqDiff, false_and, and_false, and_self, reduceCtorEq, Nat.reduceAdd, k_i i]
  exact nx t2 M2 f6
theorem law_29 {L : Nat} {xs : Nat → Int32} {i : Nat} (hi : i + 6 ≤ L) (hL : L ≤ 3072) {t : Bool} {M : fj_HM} (h : fj_Iv t M) {Q : fj_Po} (nx : lwN L xs i Q) : fj_H (some (L, xs)) 164 1093 [.float 0, .ref 0, .ref 33, .int (nI i)] [] M (fj_PY t) 53 7835 Q := by
  simp only [fs164_1093, fs164_1094, fj_OB, fj_AR, fj_CI, q_zo0, q_zo1, Option.toList_some, Option.toList_none, List.cons_append, List.nil_append, true_and, and_true, true_or, if_true, if_false, q_l10, q_l01, eq_self, Int32.reduceLT, Int32.reduceLE, Int32.reduceAdd, Int32.reduceSub, fj_up_at, Nat.reduceEqDiff, false_and, and_false, and_self, reduceCtorEq, Nat.reduceAdd, k_i i]
  refine pr_use (pr_fault h ) (fun r M1 P1 ok e3 => ?_)
  obtain ⟨w, rfl⟩ := ok
  simp only [fs164_1097, fs164_1098, fj_OB, fj_AR, fj_CI, q_zo0, q_zo1, Option.toList_some, Option.toList_none, List.cons_append, List.nil_append, true_and, and_true, true_or, if_true, if_false, q_l10, q_l01, eq_self, Int32.reduceLT, Int32.reduceLE, Int32.reduceAdd, Int32.reduceSub, fj_up_at, Nat.reduceEqDiff, false_and, and_false, and_self, reduceCtorEq, Nat.reduceAdd, k_i i]
  refine fj_H_mono e3 (fun r2 M2 P2 c2 z2 ⟨f1, f2, f3, f4, t2, f5, f6⟩ => ?_)
  subst f1
  subst f2
  subst f3
  subst f5
  simp only [fs164_1101, fs164_1129, fs164_1132, fj_OB, fj_AR, fj_CI, q_zo0, q_zo1, Option.toList_some, Option.toList_none, List.cons_append, List.nil_append, true_and, and_true, true_or, if_true, if_false, q_l10, q_l01, eq_self, Int32.reduceLT, Int32.reduceLE, Int32.reduceAdd, Int32.reduceSub, fj_up_at, Nat.reduceEqDiff, false_and, and_false, and_self, reduceCtorEq, Nat.reduceAdd, k_i i]
  exact nx t2 M2 f6
theorem law_30 {L : Nat} {xs : Nat → Int32} {i : Nat} (hi : i + 6 ≤ L) (hL : L ≤ 3072) {t : Bool} {M : fj_HM} (h : fj_Iv t M) {Q : fj_Po} (nx : lwN L xs i Q) : fj_H (some (L, xs)) 164 1106 [.float 0, .ref 0, .ref 33, .int (nI i)] [] M (fj_PY t) 53 7835 Q := by
  simp only [fs164_1106, fs164_1107, fs164_1108, fs164_1109, fs164_1110, fs164_1111, fs164_1112, fj_OB, fj_AR, fj_CI, q_zo0, q_zo1, Option.toList_some, Option.toList_none, List.cons_append, List.nil_append, true_and, and_true, true_or, if_true, if_false, q_l10, q_l01, eq_self, Int32.reduceLT, Int32.reduceLE, Int32.reduceAdd, Int32.reduceSub, fj_up_at, Nat.reduceEqDiff, false_and, and_false, and_self, reduceCtorEq, Nat.reduceAdd, k_i i, q_in (show i + 1 < L by omega), q_clamp (show i + 1 < 100000 by omega)]
  refine pr_use (pr_many h (xs (i + 1))) (fun r M1 P1 ok e3 => ?_)
  obtain ⟨w, rfl⟩ := ok
  simp only [fs164_1115, fs164_1116, fs164_1117, fs164_1118, fs164_1119, fs164_1120, fs164_1121, fj_OB, fj_AR, fj_CI, q_zo0, q_zo1, Option.toList_some, Option.toList_none, List.cons_append, List.nil_append, true_and, and_true, true_or, if_true, if_false, q_l10, q_l01, eq_self, Int32.reduceLT, Int32.reduceLE, Int32.reduceAdd, Int32.reduceSub, fj_up_at, Nat.reduceEqDiff, false_and, and_false, and_self, reduceCtorEq, Nat.reduceAdd, k_i i, q_in (show i + 1 < L by omega), q_clamp (show i + 1 < 100000 by omega)]
  refine fj_H_mono e3 (fun r2 M2 P2 c2 z2 ⟨f1, f2, f3, f4, t2, f5, f6⟩ => ?_)
  subst f1
  subst f2
  subst f3
  subst f5
  simp only [fs164_1124, fs164_1129, fs164_1132, fj_OB, fj_AR, fj_CI, q_zo0, q_zo1, Option.toList_some, Option.toList_none, List.cons_append, List.nil_append, true_and, and_true, true_or, if_true, if_false, q_l10, q_l01, eq_self, Int32.reduceLT, Int32.reduceLE, Int32.reduceAdd, Int32.reduceSub, fj_up_at, Nat.reduceEqDiff, false_and, and_false, and_self, reduceCtorEq, Nat.reduceAdd, k_i i]
  exact nx t2 M2 f6
theorem k_len {L i : Nat} (hL : L ≤ 3072) (hi : i ≤ 4000) : (Int32.ofNat L - 6 < nI i) = (L < i + 6) := by
  apply propext
  have e6 : (6 : Int32).toInt = 6 := rfl
  have eL : (Int32.ofNat L).toInt = (L : Int) := q_toInt (by omega)
  rw [Int32.lt_iff_toInt_lt, Int32.toInt_sub, eL, e6, q_toInt (by omega), Int.bmod_eq_of_le (by omega) (by omega)]
  omega
theorem law_loop {L : Nat} {xs : Nat → Int32} (hL : L ≤ 3072) : ∀ (k i : Nat) (t : Bool) (M : fj_HM), L ≤ i + 6 * k + 5 → i ≤ 3080 → fj_Iv t M → fj_H (some (L, xs)) 164 18 [.float 0, .ref 0, .ref 33, .int (nI i)] [] M (fj_PY t) 53 7835 (fun v _ _ c z => v = some (.int 1) ∧ c = 53 ∧ z = 7835) := by
  intro k
  induction k with
  | zero =>
    intro i t M hk hi h
    rw [fs164_18]
    simp only [fs164_19, fs164_20, fs164_21, fs164_23, fs164_24, fj_OB, fj_AR, fj_CI, q_zo0, q_zo1, Option.toList_some, Option.toList_none, List.cons_append, List.nil_append, true_and, and_true, true_or, if_true, if_false, q_l10, q_l01, eq_self, Int32.reduceLT, Int32.reduceLE, Int32.reduceAdd, Int32.reduceSub, fj_up_at, Nat.reduceEqDiff, false_and, and_false, and_self, reduceCtorEq, Nat.reduceAdd, k_len hL (show i ≤ 4000 by omega), eq_true (show L < i + 6 by omega)]
    simp only [fs164_1135, fs164_1136, fj_OB, fj_AR, fj_CI, q_zo0, q_zo1, Option.toList_some, Option.toList_none, List.cons_append, List.nil_append, true_and, and_true, true_or, if_true, if_false, q_l10, q_l01, eq_self, Int32.reduceLT, Int32.reduceLE, Int32.reduceAdd, Int32.reduceSub, fj_up_at, Nat.reduceEqDiff, false_and, and_false, and_self, reduceCtorEq, Nat.reduceAdd]
  | succ k ih =>
    intro i t M hk hi h
    rw [fs164_18]
    simp only [fs164_19, fs164_20, fs164_21, fs164_23, fs164_24, fj_OB, fj_AR, fj_CI, q_zo0, q_zo1, Option.toList_some, Option.toList_none, List.cons_append, List.nil_append, true_and, and_true, true_or, if_true, if_false, q_l10, q_l01, eq_self, Int32.reduceLT, Int32.reduceLE, Int32.reduceAdd, Int32.reduceSub, fj_up_at, Nat.reduceEqDiff, false_and, and_false, and_self, reduceCtorEq, Nat.reduceAdd, k_len hL (show i ≤ 4000 by omega)]
    by_cases hl : L < i + 6
    · rw [if_pos hl]
      simp only [fs164_1135, fs164_1136, fj_OB, fj_AR, fj_CI, q_zo0, q_zo1, Option.toList_some, Option.toList_none, List.cons_append, List.nil_append, true_and, and_true, true_or, if_true, if_false, q_l10, q_l01, eq_self, Int32.reduceLT, Int32.reduceLE, Int32.reduceAdd, Int32.reduceSub, fj_up_at, Nat.reduceEqDiff, false_and, and_false, and_self, reduceCtorEq, Nat.reduceAdd]
    · rw [if_neg hl]
      have hi6 : i + 6 ≤ L := by omega
      have nx : lwN L xs i (fun v _ _ c z => v = some (.int 1) ∧ c = 53 ∧ z = 7835) := fun t' M' h' => ih (i + 6) t' M' (by omega) (by omega) h'
      simp only [fs164_27, fs164_28, fs164_29, fs164_30, fs164_32, fs164_33, fj_OB, fj_AR, fj_CI, q_zo0, q_zo1, Option.toList_some, Option.toList_none, List.cons_append, List.nil_append, true_and, and_true, true_or, if_true, if_false, q_l10, q_l01, eq_self, Int32.reduceLT, Int32.reduceLE, Int32.reduceAdd, Int32.reduceSub, fj_up_at, Nat.reduceEqDiff, false_and, and_false, and_self, reduceCtorEq, Nat.reduceAdd, q_in (show i < L by omega), q_clamp (show i < 100000 by omega)]
      generalize xs i &&& 31 = u
      by_cases u0 : u = 0
      · rw [if_pos u0]
        exact law_0 hi6 hL h nx
      rw [if_neg u0]
      by_cases u1 : u = 1
      · rw [if_pos u1]
        exact law_1 hi6 hL h nx
      rw [if_neg u1]
      by_cases u2 : u = 2
      · rw [if_pos u2]
        exact law_2 hi6 hL h nx
      rw [if_neg u2]
      by_cases u3 : u = 3
      · rw [if_pos u3]
        exact law_3 hi6 hL h nx
      rw [if_neg u3]
      by_cases u4 : u = 4
      · rw [if_pos u4]
        exact law_4 hi6 hL h nx
      rw [if_neg u4]
      by_cases u5 : u = 5
      · rw [if_pos u5]
        exact law_5 hi6 hL h nx
      rw [if_neg u5]
      by_cases u6 : u = 6
      · rw [if_pos u6]
        exact law_6 hi6 hL h nx
      rw [if_neg u6]
      by_cases u7 : u = 7
      · rw [if_pos u7]
        exact law_7 hi6 hL h nx
      rw [if_neg u7]
      by_cases u8 : u = 8
      · rw [if_pos u8]
        exact law_8 hi6 hL h nx
      rw [if_neg u8]
      by_cases u9 : u = 9
      · rw [if_pos u9]
        exact law_9 hi6 hL h nx
      rw [if_neg u9]
      by_cases u10 : u = 10
      · rw [if_pos u10]
        exact law_10 hi6 hL h nx
      rw [if_neg u10]
      by_cases u11 : u = 11
      · rw [if_pos u11]
        exact law_11 hi6 hL h nx
      rw [if_neg u11]
      by_cases u12 : u = 12
      · rw [if_pos u12]
        exact law_12 hi6 hL h nx
      rw [if_neg u12]
      by_cases u13 : u = 13
      · rw [if_pos u13]
        exact law_13 hi6 hL h nx
      rw [if_neg u13]
      by_cases u14 : u = 14
      · rw [if_pos u14]
        exact law_14 hi6 hL h nx
      rw [if_neg u14]
      by_cases u15 : u = 15
      · rw [if_pos u15]
        exact law_15 hi6 hL h nx
      rw [if_neg u15]
      by_cases u16 : u = 16
      · rw [if_pos u16]
        exact law_16 hi6 hL h nx
      rw [if_neg u16]
      by_cases u17 : u = 17
      · rw [if_pos u17]
        exact law_17 hi6 hL h nx
      rw [if_neg u17]
      by_cases u18 : u = 18
      · rw [if_pos u18]
        exact law_18 hi6 hL h nx
      rw [if_neg u18]
      by_cases u19 : u = 19
      · rw [if_pos u19]
        exact law_19 hi6 hL h nx
      rw [if_neg u19]
      by_cases u20 : u = 20
      · rw [if_pos u20]
        exact law_20 hi6 hL h nx
      rw [if_neg u20]
      by_cases u21 : u = 21
      · rw [if_pos u21]
        exact law_21 hi6 hL h nx
      rw [if_neg u21]
      by_cases u22 : u = 22
      · rw [if_pos u22]
        exact law_22 hi6 hL h nx
      rw [if_neg u22]
      by_cases u23 : u = 23
      · rw [if_pos u23]
        exact law_23 hi6 hL h nx
      rw [if_neg u23]
      by_cases u24 : u = 24
      · rw [if_pos u24]
        exact law_24 hi6 hL h nx
      rw [if_neg u24]
      by_cases u25 : u = 25
      · rw [if_pos u25]
        exact law_25 hi6 hL h nx
      rw [if_neg u25]
      by_cases u26 : u = 26
      · rw [if_pos u26]
        exact law_26 hi6 hL h nx
      rw [if_neg u26]
      by_cases u27 : u = 27
      · rw [if_pos u27]
        exact law_27 hi6 hL h nx
      rw [if_neg u27]
      by_cases u28 : u = 28
      · rw [if_pos u28]
        exact law_28 hi6 hL h nx
      rw [if_neg u28]
      by_cases u29 : u = 29
      · rw [if_pos u29]
        exact law_29 hi6 hL h nx
      rw [if_neg u29]
      by_cases u30 : u = 30
      · rw [if_pos u30]
        exact law_30 hi6 hL h nx
      rw [if_neg u30]
      simp only [fs164_1129, fs164_1132, fj_OB, fj_AR, fj_CI, q_zo0, q_zo1, Option.toList_some, Option.toList_none, List.cons_append, List.nil_append, true_and, and_true, true_or, if_true, if_false, q_l10, q_l01, eq_self, Int32.reduceLT, Int32.reduceLE, Int32.reduceAdd, Int32.reduceSub, fj_up_at, Nat.reduceEqDiff, false_and, and_false, and_self, reduceCtorEq, Nat.reduceAdd, k_i i]
      exact nx t M h
