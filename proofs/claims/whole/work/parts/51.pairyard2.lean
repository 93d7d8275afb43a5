/-! ===== pairs: yard ===== -/
theorem yo_cs (t : Bool) {o : Nat} (ho : o = 17 ∨ o = 25) : o = yo t ∨ o = yo (!t) := by
  cases t <;> simp only [yo, Bool.not_true, Bool.not_false, if_true, if_false, Bool.false_eq_true] <;> omega
theorem yo_ne (t : Bool) : (yo t = 17 ∧ yo (!t) = 25) ∨ (yo t = 25 ∧ yo (!t) = 17) := by
  cases t
  · exact Or.inr ⟨rfl, rfl⟩
  · exact Or.inl ⟨rfl, rfl⟩
/-- a text that isn't taken -/
theorem fj_In_no {t : Bool} {M M' : fj_HM} {A : fj_Yd} {R : fj_Rd} (h : fj_In t M A R) (h1 : ∀ o, (2 ≤ o ∧ o ≤ 8) ∨ (yo t ≤ o ∧ o ≤ yo t + 7) ∨ (34 ≤ o ∧ o ≤ 38) ∨ (46 ≤ o ∧ o ≤ 51) → M' o = M o) (h3 : ∀ k, (1 ≤ k ∧ k ≤ 12) ∨ k = 32 → M' 33 k = M 33 k) (h8 : M' 0 8 = M' 33 40) (h9 : M' 0 9 = M' 33 0) (hj : ∀ j, j < 6 → ∃ d, d < 24 ∧ M' (yo (!t) + 4) j = nI d) : fj_In t M' A R := by
  obtain ⟨a1, a2, a3, a4, a5, a6, a7, a8, a9, a10⟩ := h
  have hyo := yo_or t
  refine ⟨a1, fj_YC_cg (fun i hi j => by rw [h1 _ (by omega)]) a2, fj_YM_cg (fun o b1 b2 => h1 o (by omega)) (fun k b1 b2 => h3 k (by omega)) a3, a4, fj_RC_cg (fun o b1 b2 => h1 o (by omega)) a5, fj_RM_cg (fun o b1 b2 => h1 o (by omega)) (h3 32 (by decide)) a6, fj_S_cg (fun o ho => h1 o (by omega)) a7, fun o ho j jj => ?_, h8, h9⟩
  rcases yo_cs t ho with e | e
  · rw [h1 (o + 4) (by omega)]
    exact a8 o ho j jj
  · rw [e]
    exact hj j jj
/-- a text that is taken: no reading is left -/
theorem fj_In_yes {t : Bool} {M M' : fj_HM} {A B : fj_Yd} {R : fj_Rd} (h : fj_In t M A R) (h1 : ∀ o, (2 ≤ o ∧ o ≤ 4) ∨ (yo t ≤ o ∧ o ≤ yo t + 7) ∨ (46 ≤ o ∧ o ≤ 51) → M' o = M o) (h8 : M' 0 8 = M' 33 40) (h9 : M' 0 9 = M' 33 0) (hV : fj_YV B) (hC : fj_YC (yo (!t)) M' B) (hM : fj_YM M' B) (h5 : M' 5 0 = 0) (h32 : M' 33 32 = 0) (hj : ∀ j, j < 6 → ∃ d, d < 24 ∧ M' (yo (!t) + 4) j = nI d) : fj_In (!t) M' B (rBack R R.1) := by
  obtain ⟨a1, a2, a3, a4, a5, a6, a7, a8, a9, a10⟩ := h
  have e0 : R.1 - R.1 = 0 := Nat.sub_self _
  have hyo := yo_or t
  refine ⟨hV, hC, hM, ⟨?_, fun x hx => ?_⟩, ⟨?_, fun x hx => ?_⟩, ⟨?_, fun x hx => ?_⟩, fj_S_cg (fun o ho => h1 o (by omega)) a7, fun o ho j jj => ?_, h8, h9⟩
  · show R.1 - R.1 ≤ 8
    omega
  · have hx' : x < R.1 - R.1 := hx
    omega
  · show M' 5 0 = nI (R.1 - R.1)
    rw [h5, e0]
    rfl
  · have hx' : x < R.1 - R.1 := hx
    omega
  · show M' 33 32 = nI (R.1 - R.1)
    rw [h32, e0]
    rfl
  · have hx' : x < R.1 - R.1 := hx
    omega
  · rcases yo_cs t ho with e | e
    · rw [h1 (o + 4) (by omega)]
      exact a8 o ho j jj
    · rw [e]
      exact hj j jj
theorem pr_yard {t : Bool} {M : fj_HM} (h : fj_Iv t M) (v w y x : Int32) : fj_pr isI t M 58 [.ref 0, .int v, .int w, .int y, .int x, .null] 114 [.ref 33, .int v, .int w, .int y, .int x, .null, .null] := by
  obtain ⟨A, R, h⟩ := h
  have hS := h.2.2.2.2.2.2.1
  have hy := yo_or t
  have hyn := yo_ne t
  unfold fj_pr
  rcases q_place (n := 4) (by omega) v with e | ⟨e, e'⟩ | ⟨k, hk, rfl, e, e'⟩
  · simp only [fs58_0, fs58_1, fs58_2, fs58_5, fs58_6, fs58_9, fs58_12, fs58_13, fs114_0, fs114_1, fs114_4, fs114_7, fs114_8, fs114_9, fs114_12, m19, m148, m102, fj_PV t, fj_OB, fj_AR, fj_CI, q_zo0, q_zo1, Option.toList_some, Option.toList_none, List.cons_append, List.nil_append, true_and, and_true, true_or, if_true, if_false, q_l10, q_l01, eq_self, Int32.reduceLT, Int32.reduceLE, Int32.reduceAdd, Int32.reduceSub, fj_up_at, Nat.reduceEqDiff, false_and, and_false, and_self, reduceCtorEq, Nat.reduceAdd, e]
    exact fj_fin_i (fj_In_f h _) _
  · simp only [fs58_0, fs58_1, fs58_2, fs58_5, fs58_6, fs58_9, fs58_12, fs58_13, fs114_0, fs114_1, fs114_4, fs114_7, fs114_8, fs114_9, fs114_12, m19, m148, m102, fj_PV t, fj_OB, fj_AR, fj_CI, q_zo0, q_zo1, Option.toList_some, Option.toList_none, List.cons_append, List.nil_append, true_and, and_true, true_or, if_true, if_false, q_l10, q_l01, eq_self, Int32.reduceLT, Int32.reduceLE, Int32.reduceAdd, Int32.reduceSub, fj_up_at, Nat.reduceEqDiff, false_and, and_false, and_self, reduceCtorEq, Nat.reduceAdd, e, show ((4 : Int32) ≤ v) = True from e', e']
    exact fj_fin_i (fj_In_f h _) _
  · have e'' : ((4 : Int32) ≤ nI k) = False := e'
    rcases q_span 0 2 (by decide) (by decide) w with f | ⟨f, f', f''⟩ | ⟨l2, l1, l2', rfl, f, f', f''⟩
    · rw [show nI 0 = 0 from rfl] at f
      simp only [fs58_0, fs58_1, fs58_2, fs58_5, fs58_6, fs58_9, fs58_14, fs58_15, fs58_18, fs58_21, fs58_23, fs114_0, fs114_1, fs114_4, fs114_13, fs114_14, fs114_15, fs114_16, fs114_19, fs114_22, fs114_25, fs114_26, fs114_28, fs114_31, m19, m20, m97c q_l0 k_l2, m148, m102, fj_PV t, fj_OB, fj_AR, fj_CI, q_zo0, q_zo1, Option.toList_some, Option.toList_none, List.cons_append, List.nil_append, true_and, and_true, true_or, if_true, if_false, q_l10, q_l01, eq_self, Int32.reduceLT, Int32.reduceLE, Int32.reduceAdd, Int32.reduceSub, fj_up_at, Nat.reduceEqDiff, false_and, and_false, and_self, reduceCtorEq, Nat.reduceAdd, e, e', e'', f]
      exact fj_fin_i (fj_In_f h _) _
    · rw [show nI 0 = 0 from rfl] at f
      rw [show nI 2 = 2 from rfl] at f' f''
      simp only [fs58_0, fs58_1, fs58_2, fs58_5, fs58_6, fs58_9, fs58_14, fs58_15, fs58_18, fs58_21, fs58_23, fs114_0, fs114_1, fs114_4, fs114_13, fs114_14, fs114_15, fs114_16, fs114_19, fs114_22, fs114_25, fs114_26, fs114_28, fs114_31, m19, m20, m97c q_l0 k_l2, m148, m102, fj_PV t, fj_OB, fj_AR, fj_CI, q_zo0, q_zo1, Option.toList_some, Option.toList_none, List.cons_append, List.nil_append, true_and, and_true, true_or, if_true, if_false, q_l10, q_l01, eq_self, Int32.reduceLT, Int32.reduceLE, Int32.reduceAdd, Int32.reduceSub, fj_up_at, Nat.reduceEqDiff, false_and, and_false, and_self, reduceCtorEq, Nat.reduceAdd, e, e', e'', f, f', f'']
      exact fj_fin_i (fj_In_f h _) _
    · rw [show nI 0 = 0 from rfl] at f
      rw [show nI 2 = 2 from rfl] at f' f''
      have w11 : ((0 : Int32) ≤ -11) = False := eq_false (by decide)
      have w12 : ((0 : Int32) ≤ -12) = False := eq_false (by decide)
      have w13 : ((0 : Int32) ≤ -13) = False := eq_false (by decide)
      have w14 : ((0 : Int32) ≤ -14) = False := eq_false (by decide)
      have w0 : ((0 : Int32) ≤ 0) = True := eq_true (by decide)
      rcases hS k hk with ⟨s1, s2, s3⟩ | ⟨s, l, hs, hl, s1, s2, s3, s4, s5⟩
      · have z1 : fj_up M 0 9 1 49 k = -1 := s1
        simp only [fs58_0, fs58_1, fs58_2, fs58_5, fs58_6, fs58_9, fs58_14, fs58_15, fs58_18, fs58_24, fs58_25, fs58_28, fs58_29, fs58_30, fs58_33, fs58_35, fs58_37, fs58_40, fs58_41, fs58_43, fs58_46, m19, m20, m23 hk, m95, fj_PV t, fj_OB, fj_AR, fj_CI, q_zo0, q_zo1, Option.toList_some, Option.toList_none, List.cons_append, List.nil_append, true_and, and_true, true_or, if_true, if_false, q_l10, q_l01, eq_self, Int32.reduceLT, Int32.reduceLE, Int32.reduceAdd, Int32.reduceSub, fj_up_at, Nat.reduceEqDiff, false_and, and_false, and_self, reduceCtorEq, Nat.reduceAdd, e, e'', f, f', f'', s2, fj_up_up]
        simp only [fs114_0, fs114_1, fs114_4, fs114_13, fs114_14, fs114_15, fs114_16, fs114_19, fs114_22, fs114_32, fs114_33, fs114_34, fs114_35, fs114_36, fs114_38, fs114_39, fs114_42, fs114_44, fs114_46, fs114_49, fs114_51, m97c q_l0 k_l2, m148, m113b hk z1, fj_PV t, fj_OB, fj_AR, fj_CI, q_zo0, q_zo1, Option.toList_some, Option.toList_none, List.cons_append, List.nil_append, true_and, and_true, true_or, if_true, if_false, q_l10, q_l01, eq_self, Int32.reduceLT, Int32.reduceLE, Int32.reduceAdd, Int32.reduceSub, fj_up_at, Nat.reduceEqDiff, false_and, and_false, and_self, reduceCtorEq, Nat.reduceAdd, e, e', f, f', f'', w11]
        exact fj_fin_i (fj_In_f h _) _
      · have ll : (nI l = nI l2) = (l = l2) := q_eq (by omega) (by omega)
        by_cases hl2 : l = l2
        · have hs2 : (M 50 k = nI l2) = True := by rw [s4, ll]; exact eq_true hl2
          by_cases hx : x < 0
          · have hx2 : ((0 : Int32) ≤ x) = False := eq_false (Int32.not_le.mpr hx)
            have z1 : fj_up M 0 9 4 49 k = nI s := s1
            simp only [fs58_0, fs58_1, fs58_2, fs58_5, fs58_6, fs58_9, fs58_14, fs58_15, fs58_18, fs58_24, fs58_25, fs58_28, fs58_29, fs58_30, fs58_33, fs58_35, fs58_37, fs58_47, fs58_49, fs58_52, fs58_53, fs58_54, fs58_57, m19, m20, m23 hk, m95, fj_PV t, fj_OB, fj_AR, fj_CI, q_zo0, q_zo1, Option.toList_some, Option.toList_none, List.cons_append, List.nil_append, true_and, and_true, true_or, if_true, if_false, q_l10, q_l01, eq_self, Int32.reduceLT, Int32.reduceLE, Int32.reduceAdd, Int32.reduceSub, fj_up_at, Nat.reduceEqDiff, false_and, and_false, and_self, reduceCtorEq, Nat.reduceAdd, e, e'', f, f', f'', s3, q_lane hl, q_lane l2', ll, hl2, hx2, fj_up_up]
            simp only [fs114_0, fs114_1, fs114_4, fs114_13, fs114_14, fs114_15, fs114_16, fs114_19, fs114_22, fs114_32, fs114_33, fs114_34, fs114_35, fs114_36, fs114_38, fs114_39, fs114_42, fs114_44, fs114_46, fs114_49, fs114_51, m97c q_l0 k_l2, m148, m113s hk (show s < 1000 by omega) z1 (show (fj_up M 0 9 4 50 k = nI l2) = True from hs2) hx, fj_PV t, fj_OB, fj_AR, fj_CI, q_zo0, q_zo1, Option.toList_some, Option.toList_none, List.cons_append, List.nil_append, true_and, and_true, true_or, if_true, if_false, q_l10, q_l01, eq_self, Int32.reduceLT, Int32.reduceLE, Int32.reduceAdd, Int32.reduceSub, fj_up_at, Nat.reduceEqDiff, false_and, and_false, and_self, reduceCtorEq, Nat.reduceAdd, e, e', f, f', f'', w14]
            exact fj_fin_i (fj_In_f h _) _
          · have hx2 : ((0 : Int32) ≤ x) = True := eq_true (Int32.not_lt.mp hx)
            by_cases g : sgN s y x
            · obtain ⟨i, a, rfl, rfl, hia⟩ := g
              have z4 : fj_up M 0 9 0 4 k = nI s := s2
              simp only [fs58_0, fs58_1, fs58_2, fs58_5, fs58_6, fs58_9, fs58_14, fs58_15, fs58_18, fs58_24, fs58_25, fs58_28, fs58_29, fs58_30, fs58_33, fs58_35, fs58_37, fs58_47, fs58_49, fs58_58, fs58_59, fs58_62, fs58_63, fs58_64, fs58_66, fs58_69, fs58_78, fs58_79, fs58_82, fs58_83, fs58_84, fs58_86, fs58_87, fs58_90, m19, m20, m23 hk, m25y hk (show s < 1000 by omega) z4 hia, fj_PV t, fj_OB, fj_AR, fj_CI, q_zo0, q_zo1, Option.toList_some, Option.toList_none, List.cons_append, List.nil_append, true_and, and_true, true_or, if_true, if_false, q_l10, q_l01, eq_self, Int32.reduceLT, Int32.reduceLE, Int32.reduceAdd, Int32.reduceSub, fj_up_at, Nat.reduceEqDiff, false_and, and_false, and_self, reduceCtorEq, Nat.reduceAdd, e, e'', f, f', f'', s3, q_lane hl, q_lane l2', ll, hl2, hx2]
              refine m32 hk (show i + a ≤ 60 by omega) (fun M1 p1 p2 => ?_)
              simp only [fs58_93, fs58_94, fs58_96, fj_PV t, fj_OB, fj_AR, fj_CI, q_zo0, q_zo1, Option.toList_some, Option.toList_none, List.cons_append, List.nil_append, true_and, and_true, true_or, if_true, if_false, q_l10, q_l01, eq_self, Int32.reduceLT, Int32.reduceLE, Int32.reduceAdd, Int32.reduceSub, fj_up_at, Nat.reduceEqDiff, false_and, and_false, and_self, reduceCtorEq, Nat.reduceAdd]
              have hB1 : ∀ j, j < 6 → ∃ d, d < 24 ∧ M1 (yo (!t) + 4) j = nI d := fun j hj => by
                rw [p1 _ (by omega), fj_up_at, if_neg (by omega)]
                exact h.2.2.2.2.2.2.2.1 _ (yo_or (!t)) j hj
              have g16 : ∀ (M' : fj_HM), M' 51 = M 51 → pSm (gC M1 a) (gM M' (60 * k + i) a) := fun M' h51 p => by
                unfold gC gM
                by_cases hp : p < a
                · left
                  rw [if_pos hp, if_pos hp, p2 p hp, fj_up_at, if_neg (by omega), h51, s5 _ (by omega), Nat.add_assoc]
                · right
                  rw [if_neg hp, if_neg hp]
                  exact ⟨rfl, rfl⟩
              have e60 : (60 : Int32) * nI k + nI i = nI (60 * k + i) := by rw [show (60 : Int32) = nI 60 from rfl, q_mul, nI_add]
              have fr1 : ∀ o', o' ≠ 0 → o' ≠ 16 → M1 o' = M o' := fun o' b1 b2 => by
                rw [p1 o' b2]
                (funext j; simp only [fj_up_at]; repeat (rw [if_neg (by omega)]))
              have M10 : ∀ j, M1 0 j = fj_up M 0 9 0 0 j := fun j => by rw [p1 0 (by decide)]
              refine m59 (show a ≤ 60 by omega) (g := gC M1 a) (fun _ => rfl) hB1 (fun M2 f2 q1 q2 q3 q4 => ?_) (fun M2 B q1 q2 q3 hV hC => ?_)
              · have fr2 : ∀ o', o' ≠ 0 → o' ≠ 16 → (o' < yo (!t) ∨ yo (!t) + 7 < o') → M2 o' = M o' := fun o' b1 b2 b3 => by rw [q1 o' b3, fr1 o' b1 b2]
                have M20 : ∀ j, M2 0 j = fj_up M 0 9 0 0 j := fun j => by rw [q1 0 (by omega), M10]
                simp only [fs58_99, fj_OB, fj_AR, fj_CI, q_zo0, q_zo1, Option.toList_some, Option.toList_none, List.cons_append, List.nil_append, true_and, and_true, true_or, if_true, if_false, q_l10, q_l01, eq_self, Int32.reduceLT, Int32.reduceLE, Int32.reduceAdd, Int32.reduceSub, fj_up_at, Nat.reduceEqDiff, false_and, and_false, and_self, reduceCtorEq, Nat.reduceAdd]
                simp only [fs114_0, fs114_1, fs114_4, fs114_13, fs114_14, fs114_15, fs114_16, fs114_19, fs114_22, fs114_32, fs114_33, fs114_34, fs114_35, fs114_36, fs114_38, fs114_39, fs114_42, fs114_44, fs114_46, fs114_52, fs114_53, fs114_55, fs114_56, fs114_57, fs114_58, fs114_59, fs114_61, m97c q_l0 k_l2, m148, m113y hk (show s < 1000 by omega) (show M2 49 k = nI s by rw [fr2 49 (by decide) (by decide) (by omega)]; exact s1) (show (M2 50 k = nI l2) = True by rw [fr2 50 (by decide) (by decide) (by omega)]; exact hs2) hia, fj_PV t, fj_OB, fj_AR, fj_CI, q_zo0, q_zo1, Option.toList_some, Option.toList_none, List.cons_append, List.nil_append, true_and, and_true, true_or, if_true, if_false, q_l10, q_l01, eq_self, Int32.reduceLT, Int32.reduceLE, Int32.reduceAdd, Int32.reduceSub, fj_up_at, Nat.reduceEqDiff, false_and, and_false, and_self, reduceCtorEq, Nat.reduceAdd, e, e', f, f', f'', w0, e60]
                have eqA : pAll (gM M2 (60 * k + i) a) a = .inl f2 := by rw [← pAll_sm (g16 M2 (fr2 51 (by decide) (by decide) (by omega))) a]; exact q2
                refine m112 (show 60 * k + i + a ≤ 240 by omega) (fun M3 f3 r1 r2 r3 => ?_) (fun M3 h' w' s' r1 r2 _ _ _ _ _ _ _ _ => ?_)
                · rw [eqA] at r2
                  cases r2
                  simp only [fs114_64, fs114_67, fs114_68, fs114_70, fs114_71, fs114_74, fs114_75, fs114_78, m102, fj_PV t, fj_OB, fj_AR, fj_CI, q_zo0, q_zo1, Option.toList_some, Option.toList_none, List.cons_append, List.nil_append, true_and, and_true, true_or, if_true, if_false, q_l10, q_l01, eq_self, Int32.reduceLT, Int32.reduceLE, Int32.reduceAdd, Int32.reduceSub, fj_up_at, Nat.reduceEqDiff, false_and, and_false, and_self, reduceCtorEq, Nat.reduceAdd, r3]
                  refine fj_fin_i (fj_In_no h (fun o ho => ?_) (fun k' hk' => ?_) ?_ ?_ (fun j hj => ?_)) _
                  · rw [← fr2 o (by omega) (by omega) (by omega), ← r1.1 o (by omega) (by omega)]
                    (funext j; simp only [fj_up_at]; repeat (rw [if_neg (by omega)]))
                  · rw [fj_up_at, if_neg (by omega), r1.2 k' (by omega), fr2 33 (by omega) (by omega) (by omega)]
                  · rw [fj_up_at, if_neg (by omega), fj_up_at, if_neg (by omega), r1.1 0 (by omega) (by omega), r1.2 40 (by omega), M20, fr2 33 (by omega) (by omega) (by omega), fj_up_at, if_neg (by omega)]
                    exact h.2.2.2.2.2.2.2.2.1
                  · rw [fj_up_at, if_neg (by omega), fj_up_at, if_pos ⟨rfl, rfl⟩, r1.1 0 (by omega) (by omega), M20, fj_up_at, if_pos ⟨rfl, rfl⟩]
                  · rw [fj_up_at, if_neg (by omega), r1.1 _ (by omega) (by omega)]
                    exact q3 j hj
                · rw [eqA] at r2
                  cases r2
              · have fr2 : ∀ o', o' ≠ 0 → o' ≠ 16 → (o' < yo (!t) ∨ yo (!t) + 7 < o') → M2 o' = M o' := fun o' b1 b2 b3 => by rw [q1 o' b3, fr1 o' b1 b2]
                have M20 : ∀ j, M2 0 j = fj_up M 0 9 0 0 j := fun j => by rw [q1 0 (by omega), M10]
                have u5 : ∀ o', o' ≠ 5 → fj_up M2 5 0 0 o' = M2 o' := fun o' b => by (funext j; simp only [fj_up_at]; repeat (rw [if_neg (by omega)]))
                simp only [fs58_99, fj_OB, fj_AR, fj_CI, q_zo0, q_zo1, Option.toList_some, Option.toList_none, List.cons_append, List.nil_append, true_and, and_true, true_or, if_true, if_false, q_l10, q_l01, eq_self, Int32.reduceLT, Int32.reduceLE, Int32.reduceAdd, Int32.reduceSub, fj_up_at, Nat.reduceEqDiff, false_and, and_false, and_self, reduceCtorEq, Nat.reduceAdd]
                simp only [fs114_0, fs114_1, fs114_4, fs114_13, fs114_14, fs114_15, fs114_16, fs114_19, fs114_22, fs114_32, fs114_33, fs114_34, fs114_35, fs114_36, fs114_38, fs114_39, fs114_42, fs114_44, fs114_46, fs114_52, fs114_53, fs114_55, fs114_56, fs114_57, fs114_58, fs114_59, fs114_61, m97c q_l0 k_l2, m148, m113y hk (show s < 1000 by omega) (show fj_up M2 5 0 0 49 k = nI s by rw [u5 49 (by decide), fr2 49 (by decide) (by decide) (by omega)]; exact s1) (show (fj_up M2 5 0 0 50 k = nI l2) = True by rw [u5 50 (by decide), fr2 50 (by decide) (by decide) (by omega)]; exact hs2) hia, fj_PV (!t), fj_OB, fj_AR, fj_CI, q_zo0, q_zo1, Option.toList_some, Option.toList_none, List.cons_append, List.nil_append, true_and, and_true, true_or, if_true, if_false, q_l10, q_l01, eq_self, Int32.reduceLT, Int32.reduceLE, Int32.reduceAdd, Int32.reduceSub, fj_up_at, Nat.reduceEqDiff, false_and, and_false, and_self, reduceCtorEq, Nat.reduceAdd, e, e', f, f', f'', w0, e60]
                have eqA : pAll (gM (fj_up M2 5 0 0) (60 * k + i) a) a = .inr B := by rw [← pAll_sm (g16 (fj_up M2 5 0 0) (by rw [u5 51 (by decide), fr2 51 (by decide) (by decide) (by omega)])) a]; exact q2
                refine m112 (show 60 * k + i + a ≤ 240 by omega) (fun M3 f3 r1 r2 r3 => ?_) (fun M3 h' w' s' r1 r2 r3 r4 r5 r6 r7 r8 r9 r10 => ?_)
                · rw [eqA] at r2
                  cases r2
                · rw [eqA] at r2
                  have eB : B = pYd h' w' s' := by injection r2
                  subst eB
                  have hw24 : h' * w' ≤ 24 := Nat.mul_le_mul r4 r6
                  simp only [fs114_64, fj_OB, fj_AR, fj_CI, q_zo0, q_zo1, Option.toList_some, Option.toList_none, List.cons_append, List.nil_append, true_and, and_true, true_or, if_true, if_false, q_l10, q_l01, eq_self, Int32.reduceLT, Int32.reduceLE, Int32.reduceAdd, Int32.reduceSub, fj_up_at, Nat.reduceEqDiff, false_and, and_false, and_self, reduceCtorEq, Nat.reduceAdd]
                  refine m114_cp hw24 r7 r8 r9 r10 (fun M4 t1 t2 t3 t4 t5 => ?_)
                  have fr4 : ∀ o', o' ≠ 33 → (o' < 34 ∨ 43 < o') → M4 o' = fj_up M2 5 0 0 o' := fun o' b1 b2 => by rw [t1 o' b1 (by omega), r1.1 o' b1 (by omega)]
                  refine fj_fin_i (fj_In_yes h (B := pYd h' w' s') (fun o ho => ?_) ?_ ?_ hV (fj_YC_cg (fun i' hi' j => ?_) hC) t5 ?_ t4 (fun j hj => ?_)) _
                  · rw [fr4 o (by omega) (by omega), u5 o (by omega), fr2 o (by omega) (by omega) (by omega)]
                  · rw [fr4 0 (by decide) (by decide), t2 40 (by decide) (by decide), r1.2 40 (by decide), u5 0 (by decide), u5 33 (by decide), M20, fr2 33 (by decide) (by decide) (by omega), fj_up_at, if_neg (by omega)]
                    exact h.2.2.2.2.2.2.2.2.1
                  · rw [fr4 0 (by decide) (by decide), t3, u5 0 (by decide), M20, fj_up_at, if_pos ⟨rfl, rfl⟩]
                  · rw [fr4 _ (by omega) (by omega), u5 _ (by omega)]
                  · rw [fr4 5 (by decide) (by decide), fj_up_at, if_pos ⟨rfl, rfl⟩]
                  · rw [fr4 _ (by omega) (by omega), u5 _ (by omega)]
                    exact q3 j hj
            · have z4 : fj_up M 0 9 0 4 k = nI s := s2
              have z1 : fj_up M 0 9 3 49 k = nI s := s1
              simp only [fs58_0, fs58_1, fs58_2, fs58_5, fs58_6, fs58_9, fs58_14, fs58_15, fs58_18, fs58_24, fs58_25, fs58_28, fs58_29, fs58_30, fs58_33, fs58_35, fs58_37, fs58_47, fs58_49, fs58_58, fs58_59, fs58_62, fs58_63, fs58_64, fs58_66, fs58_69, fs58_72, fs58_73, fs58_74, fs58_77, m19, m20, m23 hk, m25n hk (show s < 1000 by omega) z4 g, m95, fj_PV t, fj_OB, fj_AR, fj_CI, q_zo0, q_zo1, Option.toList_some, Option.toList_none, List.cons_append, List.nil_append, true_and, and_true, true_or, if_true, if_false, q_l10, q_l01, eq_self, Int32.reduceLT, Int32.reduceLE, Int32.reduceAdd, Int32.reduceSub, fj_up_at, Nat.reduceEqDiff, false_and, and_false, and_self, reduceCtorEq, Nat.reduceAdd, e, e'', f, f', f'', s3, q_lane hl, q_lane l2', ll, hl2, hx2, fj_up_up]
              simp only [fs114_0, fs114_1, fs114_4, fs114_13, fs114_14, fs114_15, fs114_16, fs114_19, fs114_22, fs114_32, fs114_33, fs114_34, fs114_35, fs114_36, fs114_38, fs114_39, fs114_42, fs114_44, fs114_46, fs114_49, fs114_51, m97c q_l0 k_l2, m148, m113n hk (show s < 1000 by omega) z1 (show (fj_up M 0 9 3 50 k = nI l2) = True from hs2) hx g, fj_PV t, fj_OB, fj_AR, fj_CI, q_zo0, q_zo1, Option.toList_some, Option.toList_none, List.cons_append, List.nil_append, true_and, and_true, true_or, if_true, if_false, q_l10, q_l01, eq_self, Int32.reduceLT, Int32.reduceLE, Int32.reduceAdd, Int32.reduceSub, fj_up_at, Nat.reduceEqDiff, false_and, and_false, and_self, reduceCtorEq, Nat.reduceAdd, e, e', f, f', f'', w13]
              exact fj_fin_i (fj_In_f h _) _
        · have hs2 : (M 50 k = nI l2) = False := by rw [s4, ll]; exact eq_false hl2
          have z1 : fj_up M 0 9 2 49 k = nI s := s1
          simp only [fs58_0, fs58_1, fs58_2, fs58_5, fs58_6, fs58_9, fs58_14, fs58_15, fs58_18, fs58_24, fs58_25, fs58_28, fs58_29, fs58_30, fs58_33, fs58_35, fs58_37, fs58_40, fs58_41, fs58_43, fs58_46, m19, m20, m23 hk, m95, fj_PV t, fj_OB, fj_AR, fj_CI, q_zo0, q_zo1, Option.toList_some, Option.toList_none, List.cons_append, List.nil_append, true_and, and_true, true_or, if_true, if_false, q_l10, q_l01, eq_self, Int32.reduceLT, Int32.reduceLE, Int32.reduceAdd, Int32.reduceSub, fj_up_at, Nat.reduceEqDiff, false_and, and_false, and_self, reduceCtorEq, Nat.reduceAdd, e, e'', f, f', f'', s3, q_lane hl, q_lane l2', ll, hl2, q_ll, fj_up_up]
          simp only [fs114_0, fs114_1, fs114_4, fs114_13, fs114_14, fs114_15, fs114_16, fs114_19, fs114_22, fs114_32, fs114_33, fs114_34, fs114_35, fs114_36, fs114_38, fs114_39, fs114_42, fs114_44, fs114_46, fs114_49, fs114_51, m97c q_l0 k_l2, m148, m113c hk (show s < 1000 by omega) z1 (show (fj_up M 0 9 2 50 k = nI l2) = False from hs2), fj_PV t, fj_OB, fj_AR, fj_CI, q_zo0, q_zo1, Option.toList_some, Option.toList_none, List.cons_append, List.nil_append, true_and, and_true, true_or, if_true, if_false, q_l10, q_l01, eq_self, Int32.reduceLT, Int32.reduceLE, Int32.reduceAdd, Int32.reduceSub, fj_up_at, Nat.reduceEqDiff, false_and, and_false, and_self, reduceCtorEq, Nat.reduceAdd, e, e', f, f', f'', w12]
          exact fj_fin_i (fj_In_f h _) _
