/-! ===== pairs: readings, told and taken back ===== -/
def rAdd (R : fj_Rd) (m c : Nat) (b : Bool) : fj_Rd := (R.1 + 1, fupN R.2.1 R.1 m, fupN R.2.2.1 R.1 c, fun x => if x = R.1 then b else R.2.2.2 x)
def rBack (R : fj_Rd) (k : Nat) : fj_Rd := (R.1 - k, R.2.1, R.2.2.1, R.2.2.2)
theorem fj_In_rd {t : Bool} {M : fj_HM} {A : fj_Yd} {R : fj_Rd} (h : fj_In t M A R) (hr : R.1 < 8) {m c : Nat} (hm : m < yn A) (hc : c < yc A) (b : Bool) : fj_In t (fj_up (fj_up (fj_up (fj_up (fj_up (fj_up (fj_up (fj_up M 6 R.1 (nI m)) 7 R.1 (nI c)) 8 R.1 (bI b)) 5 0 (nI (R.1 + 1))) 46 R.1 (nI m)) 47 R.1 (nI c)) 48 R.1 (bI b)) 33 32 (nI (R.1 + 1))) A (rAdd R m c b) := by
  obtain ⟨a1, a2, a3, a4, a5, a6, a7, a8, a9, a10⟩ := h
  have hy := yo_or t
  refine ⟨a1, fj_YC_cg (fun i hi j => ?_) a2, fj_YM_cg (fun o _ _ => by (funext j; simp only [fj_up_at]; repeat (rw [if_neg (by omega)]))) (fun k _ _ => by (simp only [fj_up_at]; repeat (first | rw [if_neg (by omega)] | rw [if_pos (by omega)]))) a3, ⟨?_, fun x hx => ?_⟩, ⟨?_, fun x hx => ?_⟩, ⟨?_, fun x hx => ?_⟩, fj_S_cg (fun o ho => by (funext j; simp only [fj_up_at]; repeat (rw [if_neg (by omega)]))) a7, fj_MB_cg (by (funext j; simp only [fj_up_at]; repeat (rw [if_neg (by omega)]))) (by (funext j; simp only [fj_up_at]; repeat (rw [if_neg (by omega)]))) a8, ?_, ?_⟩
  · (simp only [fj_up_at]; repeat (first | rw [if_neg (by omega)] | rw [if_pos (by omega)]))
  · exact hr
  · have hx' : x < R.1 + 1 := hx
    show fupN R.2.1 R.1 m x < yn A ∧ fupN R.2.2.1 R.1 c x < yc A
    unfold fupN
    by_cases e : x = R.1
    · rw [if_pos e, if_pos e]; exact ⟨hm, hc⟩
    · rw [if_neg e, if_neg e]; exact a4.2 x (by omega)
  · (simp only [fj_up_at]; repeat (first | rw [if_neg (by omega)] | rw [if_pos (by omega)]))
    rfl
  · have hx' : x < R.1 + 1 := hx
    show _ = nI (fupN R.2.1 R.1 m x) ∧ _ = nI (fupN R.2.2.1 R.1 c x) ∧ _ = bI (if x = R.1 then b else R.2.2.2 x)
    simp only [fj_up_at, fupN, true_and]
    by_cases e : x = R.1
    · repeat (first | rw [if_neg (by omega)] | rw [if_pos (by omega)])
      exact ⟨rfl, rfl, rfl⟩
    · repeat (first | rw [if_neg (by omega)] | rw [if_pos (by omega)])
      exact a5.2 x (by omega)
  · (simp only [fj_up_at]; repeat (first | rw [if_neg (by omega)] | rw [if_pos (by omega)]))
    rfl
  · have hx' : x < R.1 + 1 := hx
    show _ = nI (fupN R.2.1 R.1 m x) ∧ _ = nI (fupN R.2.2.1 R.1 c x) ∧ _ = bI (if x = R.1 then b else R.2.2.2 x)
    simp only [fj_up_at, fupN, true_and]
    by_cases e : x = R.1
    · repeat (first | rw [if_neg (by omega)] | rw [if_pos (by omega)])
      exact ⟨rfl, rfl, rfl⟩
    · repeat (first | rw [if_neg (by omega)] | rw [if_pos (by omega)])
      exact a6.2 x (by omega)
  · (simp only [fj_up_at]; repeat (first | rw [if_neg (by omega)] | rw [if_pos (by omega)]))
    exact a9
  · (simp only [fj_up_at]; repeat (first | rw [if_neg (by omega)] | rw [if_pos (by omega)]))
    exact a10
theorem fj_In_bk {t : Bool} {M : fj_HM} {A : fj_Yd} {R : fj_Rd} (h : fj_In t M A R) {k : Nat} : fj_In t (fj_up (fj_up M 5 0 (nI (R.1 - k))) 33 32 (nI (R.1 - k))) A (rBack R k) := by
  obtain ⟨a1, a2, a3, a4, a5, a6, a7, a8, a9, a10⟩ := h
  have hy := yo_or t
  refine ⟨a1, fj_YC_cg (fun i hi j => ?_) a2, fj_YM_cg (fun o _ _ => by (funext j; simp only [fj_up_at]; repeat (rw [if_neg (by omega)]))) (fun k _ _ => by (simp only [fj_up_at]; repeat (first | rw [if_neg (by omega)] | rw [if_pos (by omega)]))) a3, ⟨?_, fun x hx => ?_⟩, ⟨?_, fun x hx => ?_⟩, ⟨?_, fun x hx => ?_⟩, fj_S_cg (fun o ho => by (funext j; simp only [fj_up_at]; repeat (rw [if_neg (by omega)]))) a7, fj_MB_cg (by (funext j; simp only [fj_up_at]; repeat (rw [if_neg (by omega)]))) (by (funext j; simp only [fj_up_at]; repeat (rw [if_neg (by omega)]))) a8, ?_, ?_⟩
  · (simp only [fj_up_at]; repeat (first | rw [if_neg (by omega)] | rw [if_pos (by omega)]))
  · have := a4.1
    show R.1 - k ≤ 8
    omega
  · have hx' : x < R.1 - k := hx
    exact a4.2 x (by omega)
  · (simp only [fj_up_at]; repeat (first | rw [if_neg (by omega)] | rw [if_pos (by omega)]))
    rfl
  · have hx' : x < R.1 - k := hx
    have := a5.2 x (by omega)
    simp only [fj_up_at, true_and]
    repeat (first | rw [if_neg (by omega)] | rw [if_pos (by omega)])
    exact this
  · (simp only [fj_up_at]; repeat (first | rw [if_neg (by omega)] | rw [if_pos (by omega)]))
    rfl
  · have hx' : x < R.1 - k := hx
    have := a6.2 x (by omega)
    simp only [fj_up_at, true_and]
    repeat (first | rw [if_neg (by omega)] | rw [if_pos (by omega)])
    exact this
  · (simp only [fj_up_at]; repeat (first | rw [if_neg (by omega)] | rw [if_pos (by omega)]))
    exact a9
  · (simp only [fj_up_at]; repeat (first | rw [if_neg (by omega)] | rw [if_pos (by omega)]))
    exact a10
theorem pr_reading {t : Bool} {M : fj_HM} (h : fj_Iv t M) (v w : Int32) (b : Bool) : fj_pr isI t M 74 [.ref 0, .int v, .int w, .int (bI b)] 141 [.ref 33, .int v, .int w, .int (bI b)] := by
  obtain ⟨A, R, h⟩ := h
  obtain ⟨hV, hC, hM, hRV, hRC, hRM, -⟩ := id h
  have hn := yn_le hV
  have hc := yc_le hV
  have h4 := hM.2.2.1
  have hy := yo_or t
  unfold fj_pr
  rcases q_place (n := yn A) (by omega) v with e | ⟨e, e'⟩ | ⟨m, hm, rfl, e, e'⟩
  · simp only [fs74_0, fs74_1, fs74_4, fs74_5, fs74_8, fs74_22, fs74_23, fs141_0, fs141_1, fs141_2, fs141_5, fs141_16, fs141_17, m42 (yo_or t), m106 (show yn A < 100000 by omega) h4, fj_PV t, fj_YO (yo_or t) t, fj_OB, fj_AR, fj_CI, q_zo0, q_zo1, Option.toList_some, Option.toList_none, List.cons_append, List.nil_append, true_and, and_true, true_or, if_true, if_false, q_l10, q_l01, eq_self, Int32.reduceLT, Int32.reduceLE, Int32.reduceAdd, Int32.reduceSub, fj_up_at, Nat.reduceEqDiff, false_and, and_false, and_self, reduceCtorEq, Nat.reduceAdd, hC.2.1, e]
    exact fj_fin_i h _
  · simp only [fs74_0, fs74_1, fs74_4, fs74_5, fs74_8, fs74_22, fs74_23, fs141_0, fs141_1, fs141_2, fs141_5, fs141_16, fs141_17, m42 (yo_or t), m106 (show yn A < 100000 by omega) h4, fj_PV t, fj_YO (yo_or t) t, fj_OB, fj_AR, fj_CI, q_zo0, q_zo1, Option.toList_some, Option.toList_none, List.cons_append, List.nil_append, true_and, and_true, true_or, if_true, if_false, q_l10, q_l01, eq_self, Int32.reduceLT, Int32.reduceLE, Int32.reduceAdd, Int32.reduceSub, fj_up_at, Nat.reduceEqDiff, false_and, and_false, and_self, reduceCtorEq, Nat.reduceAdd, hC.2.1, e, e']
    exact fj_fin_i h _
  · rcases q_place (n := yc A) (by omega) w with f | ⟨f, f'⟩ | ⟨c, hc', rfl, f, f'⟩
    · simp only [fs74_0, fs74_1, fs74_4, fs74_5, fs74_8, fs74_11, fs74_12, fs74_15, fs74_16, fs74_19, fs74_22, fs74_23, fs141_0, fs141_1, fs141_2, fs141_5, fs141_8, fs141_9, fs141_10, fs141_13, fs141_16, fs141_17, m42 (yo_or t), m41 (yo_or t), m105 hV hM, m106 (show yn A < 100000 by omega) h4, fj_PV t, fj_YO (yo_or t) t, fj_OB, fj_AR, fj_CI, q_zo0, q_zo1, Option.toList_some, Option.toList_none, List.cons_append, List.nil_append, true_and, and_true, true_or, if_true, if_false, q_l10, q_l01, eq_self, Int32.reduceLT, Int32.reduceLE, Int32.reduceAdd, Int32.reduceSub, fj_up_at, Nat.reduceEqDiff, false_and, and_false, and_self, reduceCtorEq, Nat.reduceAdd, hC.1, hC.2.1, e, e', f]
      exact fj_fin_i h _
    · simp only [fs74_0, fs74_1, fs74_4, fs74_5, fs74_8, fs74_11, fs74_12, fs74_15, fs74_16, fs74_19, fs74_22, fs74_23, fs141_0, fs141_1, fs141_2, fs141_5, fs141_8, fs141_9, fs141_10, fs141_13, fs141_16, fs141_17, m42 (yo_or t), m41 (yo_or t), m105 hV hM, m106 (show yn A < 100000 by omega) h4, fj_PV t, fj_YO (yo_or t) t, fj_OB, fj_AR, fj_CI, q_zo0, q_zo1, Option.toList_some, Option.toList_none, List.cons_append, List.nil_append, true_and, and_true, true_or, if_true, if_false, q_l10, q_l01, eq_self, Int32.reduceLT, Int32.reduceLE, Int32.reduceAdd, Int32.reduceSub, fj_up_at, Nat.reduceEqDiff, false_and, and_false, and_self, reduceCtorEq, Nat.reduceAdd, hC.1, hC.2.1, e, e', f, f']
      exact fj_fin_i h _
    · have r8 := hRV.1
      have g1 : (nI R.1 < 8) = (R.1 < 8) := by rw [show (8 : Int32) = nI 8 from rfl]; exact q_lt (by omega) (by decide)
      have g2 : (nI R.1 = 8) = (R.1 = 8) := by rw [show (8 : Int32) = nI 8 from rfl]; exact q_eq (by omega) (by decide)
      by_cases hr : R.1 < 8
      · have h4' : fj_up (fj_up (fj_up (fj_up M 6 R.1 (nI m)) 7 R.1 (nI c)) 8 R.1 (bI b)) 5 0 (nI (R.1 + 1)) 33 4 = nI (yn A) := h4
        have hM' : fj_YM (fj_up (fj_up (fj_up (fj_up M 6 R.1 (nI m)) 7 R.1 (nI c)) 8 R.1 (bI b)) 5 0 (nI (R.1 + 1))) A := fj_YM_cg (fun o _ _ => by (funext j; simp only [fj_up_at]; repeat (rw [if_neg (by omega)]))) (fun k _ _ => by (simp only [fj_up_at]; repeat (first | rw [if_neg (by omega)] | rw [if_pos (by omega)]))) hM
        have p1 : nI (R.1 + 1) - 1 = nI R.1 := by rw [q_1, q_sub (by omega)]; rfl
        simp only [fs74_0, fs74_1, fs74_4, fs74_5, fs74_8, fs74_11, fs74_12, fs74_15, fs74_16, fs74_19, fs74_24, fs74_25, fs74_28, fs74_31, fs74_33, fs74_39, fs74_40, fs74_43, fs74_44, fs74_45, fs74_46, fs74_49, fs141_0, fs141_1, fs141_2, fs141_5, fs141_8, fs141_9, fs141_10, fs141_13, fs141_18, fs141_19, fs141_22, fs141_24, fs141_30, fs141_31, fs141_34, fs141_35, fs141_38, fs141_39, fs141_40, fs141_41, fs141_44, fs141_45, fs141_48, fs141_49, fs141_50, fs141_51, fs141_54, fs141_55, fs141_58, fs141_59, fs141_60, fs141_61, fs141_61i, fs141_62, fs141_65, fs141_66, fs141_67, fs141_70, fs141_71, fs141_74, fs141_75, fs141_76, m4 hr hRC.1 (show fj_zo (bI b) from (by cases b; exact Or.inl rfl; exact Or.inr rfl)), m42 (yo_or t), m41 (yo_or t), m105 hV hM', m106 (show yn A < 100000 by omega) h4', fj_PV t, fj_YO (yo_or t) t, fj_OB, fj_AR, fj_CI, q_zo0, q_zo1, Option.toList_some, Option.toList_none, List.cons_append, List.nil_append, true_and, and_true, true_or, if_true, if_false, q_l10, q_l01, eq_self, Int32.reduceLT, Int32.reduceLE, Int32.reduceAdd, Int32.reduceSub, fj_up_at, Nat.reduceEqDiff, false_and, and_false, and_self, reduceCtorEq, Nat.reduceAdd, hC.1, hC.2.1, e, e', f, f', hRC.1, hRM.1, g1, g2, eq_true hr, eq_false (show ¬ R.1 = 8 by omega), q_in hr, q_clamp (show R.1 < 100000 by omega), nI_1, bI_zo, p1]
        exact fj_fin_i (fj_In_rd h hr hm hc' b) _
      · simp only [fs74_0, fs74_1, fs74_4, fs74_5, fs74_8, fs74_11, fs74_12, fs74_15, fs74_16, fs74_19, fs74_24, fs74_25, fs74_28, fs74_31, fs74_33, fs74_36, fs74_38, fs141_0, fs141_1, fs141_2, fs141_5, fs141_8, fs141_9, fs141_10, fs141_13, fs141_18, fs141_19, fs141_22, fs141_24, fs141_27, fs141_29, m42 (yo_or t), m41 (yo_or t), m105 hV hM, m106 (show yn A < 100000 by omega) h4, fj_PV t, fj_YO (yo_or t) t, fj_OB, fj_AR, fj_CI, q_zo0, q_zo1, Option.toList_some, Option.toList_none, List.cons_append, List.nil_append, true_and, and_true, true_or, if_true, if_false, q_l10, q_l01, eq_self, Int32.reduceLT, Int32.reduceLE, Int32.reduceAdd, Int32.reduceSub, fj_up_at, Nat.reduceEqDiff, false_and, and_false, and_self, reduceCtorEq, Nat.reduceAdd, hC.1, hC.2.1, e, e', f, f', hRC.1, hRM.1, g1, g2, eq_false hr, eq_true (show R.1 = 8 by omega)]
        exact fj_fin_i h _
theorem pr_back {t : Bool} {M : fj_HM} (h : fj_Iv t M) (v : Int32) : fj_pr isI t M 75 [.ref 0, .int v] 142 [.ref 33, .int v] := by
  obtain ⟨A, R, h⟩ := h
  obtain ⟨hV, hC, hM, hRV, hRC, hRM, -⟩ := id h
  have r8 := hRV.1
  unfold fj_pr
  rcases q_span 0 R.1 (by omega) (by omega) v with e | ⟨e, e', e''⟩ | ⟨k, k1, k2, rfl, e, e', e''⟩
  · rw [show nI 0 = 0 from rfl] at e
    simp only [fs75_0, fs75_1, fs75_15, fs75_17, fs142_0, fs142_1, fs142_2, fs142_3, fs142_4, fs142_7, fs142_8, fs142_11, fs142_14, fs142_16, m97c q_l0 rfl, fj_PV t, fj_OB, fj_AR, fj_CI, q_zo0, q_zo1, Option.toList_some, Option.toList_none, List.cons_append, List.nil_append, true_and, and_true, true_or, if_true, if_false, q_l10, q_l01, eq_self, Int32.reduceLT, Int32.reduceLE, Int32.reduceAdd, Int32.reduceSub, fj_up_at, Nat.reduceEqDiff, false_and, and_false, and_self, reduceCtorEq, Nat.reduceAdd, hRM.1, e]
    exact fj_fin_i h _
  · rw [show nI 0 = 0 from rfl] at e
    simp only [fs75_0, fs75_1, fs75_4, fs75_5, fs75_6, fs75_9, fs75_12, fs75_15, fs75_17, fs142_0, fs142_1, fs142_2, fs142_3, fs142_4, fs142_7, fs142_8, fs142_11, fs142_14, fs142_16, m97c q_l0 rfl, fj_PV t, fj_OB, fj_AR, fj_CI, q_zo0, q_zo1, Option.toList_some, Option.toList_none, List.cons_append, List.nil_append, true_and, and_true, true_or, if_true, if_false, q_l10, q_l01, eq_self, Int32.reduceLT, Int32.reduceLE, Int32.reduceAdd, Int32.reduceSub, fj_up_at, Nat.reduceEqDiff, false_and, and_false, and_self, reduceCtorEq, Nat.reduceAdd, hRC.1, hRM.1, e, e', e'']
    exact fj_fin_i h _
  · rw [show nI 0 = 0 from rfl] at e
    simp only [fs75_0, fs75_1, fs75_4, fs75_5, fs75_6, fs75_9, fs75_12, fs75_15, fs75_17, fs75_18, fs75_19, fs75_22, fs75_22i, fs75_23, fs75_26, fs75_27, fs75_28, fs75_31, fs75_32, fs75_35, fs75_38, fs142_0, fs142_1, fs142_2, fs142_3, fs142_4, fs142_7, fs142_8, fs142_11, fs142_14, fs142_16, fs142_17, fs142_18, fs142_18i, fs142_19, fs142_22, fs142_23, fs142_24, fs142_27, fs142_28, fs142_31, m97c q_l0 rfl, fj_PV t, fj_OB, fj_AR, fj_CI, q_zo0, q_zo1, Option.toList_some, Option.toList_none, List.cons_append, List.nil_append, true_and, and_true, true_or, if_true, if_false, q_l10, q_l01, eq_self, Int32.reduceLT, Int32.reduceLE, Int32.reduceAdd, Int32.reduceSub, fj_up_at, Nat.reduceEqDiff, false_and, and_false, and_self, reduceCtorEq, Nat.reduceAdd, hRC.1, hRM.1, e, e', e'', q_sub k2]
    exact fj_fin_i (fj_In_bk h) _
