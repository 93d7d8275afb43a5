/-! ===== the reference goes on from a state ===== -/
def stI (pl st can : Nat) : Nat := (64 * pl + st) * 7 + can
theorem stI_lt {pl st can : Nat} (h1 : pl < 9) (h2 : st < 64) (h3 : can < 7) : stI pl st can < 4032 := by unfold stI; omega
theorem stI_inj {pl st can pl' st' can' : Nat} (h2 : st < 64) (h3 : can < 7) (h2' : st' < 64) (h3' : can' < 7) (h : stI pl st can = stI pl' st' can') : pl = pl' ∧ st = st' ∧ can = can' := by unfold stI at h; omega
theorem m133 {a b c : Nat} {M : fj_HM} {P : fj_HP} {Q : fj_Po} : fj_H none 133 0 [.int (nI a), .int (nI b), .int (nI c)] [] M P 53 7835 Q = Q (some (.int (nI (stI a b c)))) M P 53 7835 := by
  have e : ((64 : Int32) * nI a + nI b) * 7 + nI c = nI (stI a b c) := by rw [show (64 : Int32) = nI 64 from rfl, show (7 : Int32) = nI 7 from rfl, q_mul, nI_add, q_mul, nI_add]; rfl
  simp only [fs133_0, fs133_2, fs133_3, fs133_4, fs133_5, fs133_6, fs133_8, fs133_9, fs133_10, fs133_11, fj_OB, fj_AR, fj_CI, q_zo0, q_zo1, Option.toList_some, Option.toList_none, List.cons_append, List.nil_append, true_and, and_true, true_or, if_true, if_false, q_l10, q_l01, eq_self, Int32.reduceLT, Int32.reduceLE, Int32.reduceAdd, Int32.reduceSub, fj_up_at, Nat.reduceEqDiff, false_and, and_false, and_self, reduceCtorEq, Nat.reduceAdd, e]
theorem m132 {t : Bool} {M : fj_HM} {A : fj_Yd} (hV : fj_YV A) (hY : fj_YM M A) {pl : Nat} (h : pl = 0 ∨ (1 ≤ pl ∧ pl ≤ yn A) ∨ (7 ≤ pl ∧ pl < 7 + yq A)) {Q : fj_Po} : fj_H none 132 0 [.ref 33, .int (nI pl)] [] M (fj_PY t) 53 7835 Q = Q (some (.int (nI (bC A pl)))) M (fj_PY t) 53 7835 := by
  have hn := yn_le hV
  have hq := yq_le hV
  have e0 : (nI pl = 0) = (pl = 0) := by rw [q_0]; exact q_eq (by omega) (by decide)
  have e7 : ((7 : Int32) ≤ nI pl) = (7 ≤ pl) := by rw [show (7 : Int32) = nI 7 from rfl]; exact q_le (by decide) (by omega)
  rcases h with h | h | h
  · subst h
    simp only [fs132_0, fs132_1, fs132_4, fs132_5, fs132_34, fj_OB, fj_AR, fj_CI, q_zo0, q_zo1, Option.toList_some, Option.toList_none, List.cons_append, List.nil_append, true_and, and_true, true_or, if_true, if_false, q_l10, q_l01, eq_self, Int32.reduceLT, Int32.reduceLE, Int32.reduceAdd, Int32.reduceSub, fj_up_at, Nat.reduceEqDiff, false_and, and_false, and_self, reduceCtorEq, Nat.reduceAdd, show (nI 0 = 0) = True from eq_true rfl]
    rfl
  · obtain ⟨b1, b2, b3⟩ := hY.2.2.2.2.2.2.2.2.1 (pl - 1) (by omega)
    have e1 : nI pl - 1 = nI (pl - 1) := by rw [q_1, q_sub (by omega)]
    have ec : bC A pl = ymc A (pl - 1) := by unfold bC; rw [if_neg (by omega), if_pos (by omega)]
    simp only [fs132_0, fs132_1, fs132_8, fs132_9, fs132_11, fs132_14, fs132_15, fs132_18, fs132_19, fs132_20, fs132_21, fs132_22, fs132_34, fj_PV t, fj_OB, fj_AR, fj_CI, q_zo0, q_zo1, Option.toList_some, Option.toList_none, List.cons_append, List.nil_append, true_and, and_true, true_or, if_true, if_false, q_l10, q_l01, eq_self, Int32.reduceLT, Int32.reduceLE, Int32.reduceAdd, Int32.reduceSub, fj_up_at, Nat.reduceEqDiff, false_and, and_false, and_self, reduceCtorEq, Nat.reduceAdd, e0, eq_false (show ¬ pl = 0 by omega), e7, eq_false (show ¬ 7 ≤ pl by omega), e1, q_in (show pl - 1 < 6 by omega), q_clamp (show pl - 1 < 100000 by omega), b3, ec]
  · have b1 := hY.2.2.2.2.2.2.2.2.2 (pl - 7) (by omega)
    have e1 : nI pl - 7 = nI (pl - 7) := by rw [show (7 : Int32) = nI 7 from rfl, q_sub (by omega)]
    have ec : bC A pl = yoc A (pl - 7) := by unfold bC; rw [if_neg (by omega), if_neg (by omega)]
    simp only [fs132_0, fs132_1, fs132_8, fs132_9, fs132_11, fs132_25, fs132_26, fs132_29, fs132_30, fs132_32, fs132_33, fs132_34, fj_PV t, fj_OB, fj_AR, fj_CI, q_zo0, q_zo1, Option.toList_some, Option.toList_none, List.cons_append, List.nil_append, true_and, and_true, true_or, if_true, if_false, q_l10, q_l01, eq_self, Int32.reduceLT, Int32.reduceLE, Int32.reduceAdd, Int32.reduceSub, fj_up_at, Nat.reduceEqDiff, false_and, and_false, and_self, reduceCtorEq, Nat.reduceAdd, e0, eq_false (show ¬ pl = 0 by omega), e7, eq_true (show 7 ≤ pl by omega), e1, q_in (show pl - 7 < 2 by omega), q_clamp (show pl - 7 < 100000 by omega), b1, ec]
/-- the table of least minutes so far -/
def sB (M : fj_HM) (F : Nat → Nat) : Prop := ∀ i, i < 4032 → M 45 i = nI (F i) ∧ F i ≤ 99999
def upF (F : Nat → Nat) (k v : Nat) : Nat → Nat := fun j => if j = k then v else F j
theorem m134_upd {t : Bool} {M : fj_HM} {A : fj_Yd} (hV : fj_YV A) (hc : 0 < yc A) (hY : fj_YM M A) {F : Nat → Nat} (hF : sB M F) {x can st pl to nx : Nat} {b : Bool} (hpl : pl = 0 ∨ (1 ≤ pl ∧ pl ≤ yn A) ∨ (7 ≤ pl ∧ pl < 7 + yq A)) (hto : (1 ≤ to ∧ to ≤ yn A) ∨ (7 ≤ to ∧ to < 7 + yq A)) (hx : x < 4032) (hFx : F x < 99999) (hnx : nx < 4032) {d7 d8 d9 d10 : Value} {Q : fj_Po}
  (hQ : ∀ (d9' d10' : Value), fj_H none 134 26 [.ref 33, .int (nI x), .int (nI can), .int (nI st), .int (nI pl), .int (bI (b || decide (F x + (yD A (bC A pl) (bC A to) + 1) < F nx))), .int (nI (to + 1)), d7, d8, d9', d10'] [] (fj_up M 45 nx (nI (if F x + (yD A (bC A pl) (bC A to) + 1) < F nx then F x + (yD A (bC A pl) (bC A to) + 1) else F nx))) (fj_PY t) 53 7835 Q) :
  fj_H none 134 146 [.ref 33, .int (nI x), .int (nI can), .int (nI st), .int (nI pl), .int (bI b), .int (nI to), d7, d8, d9, d10] [.int (nI nx)] M (fj_PY t) 53 7835 Q := by
  obtain ⟨f1, f2⟩ := hF x hx
  obtain ⟨f3, f4⟩ := hF nx hnx
  have c1 := bC_lt hV hc hpl
  have c2 := bC_lt hV hc (Or.inr hto)
  have hD : yD A (bC A pl) (bC A to) ≤ 60 := yD_le hV c1 c2
  have e : nI (F x) + nI (yD A (bC A pl) (bC A to)) + 1 = nI (F x + (yD A (bC A pl) (bC A to) + 1)) := by rw [nI_add, nI_1]; rfl
  have hlt : (nI (F nx) ≤ nI (F x + (yD A (bC A pl) (bC A to) + 1))) = (F nx ≤ F x + (yD A (bC A pl) (bC A to) + 1)) := propext (nI_leI (by omega) (by omega))
  simp only [fs134_146, fs134_148, fs134_149, fs134_152, fs134_153, fs134_154, fs134_155, fs134_156, fs134_158, fj_PV t, fj_OB, fj_AR, fj_CI, q_zo0, q_zo1, Option.toList_some, Option.toList_none, List.cons_append, List.nil_append, true_and, and_true, true_or, if_true, if_false, q_l10, q_l01, eq_self, Int32.reduceLT, Int32.reduceLE, Int32.reduceAdd, Int32.reduceSub, fj_up_at, Nat.reduceEqDiff, false_and, and_false, and_self, reduceCtorEq, Nat.reduceAdd, q_in hx, q_clamp (show x < 100000 by omega), f1, m132 hV hY hpl]
  simp only [fs134_161, fs134_162, fs134_164, fj_PV t, fj_OB, fj_AR, fj_CI, q_zo0, q_zo1, Option.toList_some, Option.toList_none, List.cons_append, List.nil_append, true_and, and_true, true_or, if_true, if_false, q_l10, q_l01, eq_self, Int32.reduceLT, Int32.reduceLE, Int32.reduceAdd, Int32.reduceSub, fj_up_at, Nat.reduceEqDiff, false_and, and_false, and_self, reduceCtorEq, Nat.reduceAdd, m132 hV hY (Or.inr hto)]
  simp only [fs134_167, fj_PV t, fj_OB, fj_AR, fj_CI, q_zo0, q_zo1, Option.toList_some, Option.toList_none, List.cons_append, List.nil_append, true_and, and_true, true_or, if_true, if_false, q_l10, q_l01, eq_self, Int32.reduceLT, Int32.reduceLE, Int32.reduceAdd, Int32.reduceSub, fj_up_at, Nat.reduceEqDiff, false_and, and_false, and_self, reduceCtorEq, Nat.reduceAdd, m118 hV hY c1 c2]
  simp only [fs134_170, fs134_171, fs134_172, fs134_173, fs134_175, fj_PV t, fj_OB, fj_AR, fj_CI, q_zo0, q_zo1, Option.toList_some, Option.toList_none, List.cons_append, List.nil_append, true_and, and_true, true_or, if_true, if_false, q_l10, q_l01, eq_self, Int32.reduceLT, Int32.reduceLE, Int32.reduceAdd, Int32.reduceSub, fj_up_at, Nat.reduceEqDiff, false_and, and_false, and_self, reduceCtorEq, Nat.reduceAdd, e]
  generalize F x + (yD A (bC A pl) (bC A to) + 1) = its at hlt hQ
  have st2 : ∀ b' : Bool, b' = (b || decide (its < F nx)) → fj_H none 134 197 [.ref 33, .int (nI x), .int (nI can), .int (nI st), .int (nI pl), .int (bI b), .int (nI to), d7, d8, .int (nI nx), .int (nI its)] [.int (bI b')] M (fj_PY t) 53 7835 Q := by
    intro b' hb'
    have hq := hQ (.int (nI nx)) (.int (nI its))
    rw [← hb'] at hq
    simp only [fs134_197, fs134_199, fs134_200, fs134_203, fs134_205, fs134_207, fs134_208, fs134_211, fs134_213, fs134_214, fj_PV t, fj_OB, fj_AR, fj_CI, q_zo0, q_zo1, Option.toList_some, Option.toList_none, List.cons_append, List.nil_append, true_and, and_true, true_or, if_true, if_false, q_l10, q_l01, eq_self, Int32.reduceLT, Int32.reduceLE, Int32.reduceAdd, Int32.reduceSub, fj_up_at, Nat.reduceEqDiff, false_and, and_false, and_self, reduceCtorEq, Nat.reduceAdd, q_in hnx, q_clamp (show nx < 100000 by omega), f3, hlt]
    by_cases hl : its < F nx
    · rw [if_pos hl] at hq
      rw [if_neg (show ¬ F nx ≤ its by omega)]
      simp only [fs134_217, fs134_219, fs134_229, fs134_230, fs134_233, fj_PV t, fj_OB, fj_AR, fj_CI, q_zo0, q_zo1, Option.toList_some, Option.toList_none, List.cons_append, List.nil_append, true_and, and_true, true_or, if_true, if_false, q_l10, q_l01, eq_self, Int32.reduceLT, Int32.reduceLE, Int32.reduceAdd, Int32.reduceSub, fj_up_at, Nat.reduceEqDiff, false_and, and_false, and_self, reduceCtorEq, Nat.reduceAdd, q_in hnx, q_clamp (show nx < 100000 by omega), nI_1]
      exact hq
    · rw [if_neg hl] at hq
      rw [if_pos (show F nx ≤ its by omega)]
      simp only [fs134_222, fs134_223, fs134_226, fs134_228, fs134_229, fs134_230, fs134_233, fj_PV t, fj_OB, fj_AR, fj_CI, q_zo0, q_zo1, Option.toList_some, Option.toList_none, List.cons_append, List.nil_append, true_and, and_true, true_or, if_true, if_false, q_l10, q_l01, eq_self, Int32.reduceLT, Int32.reduceLE, Int32.reduceAdd, Int32.reduceSub, fj_up_at, Nat.reduceEqDiff, false_and, and_false, and_self, reduceCtorEq, Nat.reduceAdd, q_in hnx, q_clamp (show nx < 100000 by omega), f3, nI_1]
      exact hq
  cases b with
  | true =>
    simp only [fs134_177, fs134_192, fs134_193, fj_OB, fj_AR, fj_CI, q_zo0, q_zo1, Option.toList_some, Option.toList_none, List.cons_append, List.nil_append, true_and, and_true, true_or, if_true, if_false, q_l10, q_l01, eq_self, Int32.reduceLT, Int32.reduceLE, Int32.reduceAdd, Int32.reduceSub, fj_up_at, Nat.reduceEqDiff, false_and, and_false, and_self, reduceCtorEq, Nat.reduceAdd, show (bI true = 0) = False from eq_false (by decide)]
    exact st2 true rfl
  | false =>
    simp only [fs134_177, fs134_180, fs134_182, fs134_183, fs134_186, fs134_188, fs134_189, fj_PV t, fj_OB, fj_AR, fj_CI, q_zo0, q_zo1, Option.toList_some, Option.toList_none, List.cons_append, List.nil_append, true_and, and_true, true_or, if_true, if_false, q_l10, q_l01, eq_self, Int32.reduceLT, Int32.reduceLE, Int32.reduceAdd, Int32.reduceSub, fj_up_at, Nat.reduceEqDiff, false_and, and_false, and_self, reduceCtorEq, Nat.reduceAdd, show (bI false = 0) = True from eq_true rfl, q_in hnx, q_clamp (show nx < 100000 by omega), f3, hlt]
    by_cases hl : its < F nx
    · rw [if_neg (show ¬ F nx ≤ its by omega)]
      simp only [fs134_192, fs134_193, fj_OB, fj_AR, fj_CI, q_zo0, q_zo1, Option.toList_some, Option.toList_none, List.cons_append, List.nil_append, true_and, and_true, true_or, if_true, if_false, q_l10, q_l01, eq_self, Int32.reduceLT, Int32.reduceLE, Int32.reduceAdd, Int32.reduceSub, fj_up_at, Nat.reduceEqDiff, false_and, and_false, and_self, reduceCtorEq, Nat.reduceAdd]
      exact st2 true (by rw [decide_eq_true hl]; rfl)
    · rw [if_pos (show F nx ≤ its by omega)]
      simp only [fs134_196, fj_OB, fj_AR, fj_CI, q_zo0, q_zo1, Option.toList_some, Option.toList_none, List.cons_append, List.nil_append, true_and, and_true, true_or, if_true, if_false, q_l10, q_l01, eq_self, Int32.reduceLT, Int32.reduceLE, Int32.reduceAdd, Int32.reduceSub, fj_up_at, Nat.reduceEqDiff, false_and, and_false, and_self, reduceCtorEq, Nat.reduceAdd]
      exact st2 false (by rw [decide_eq_false hl]; rfl)
/-- each least so far is reached -/
def sSnd (A : fj_Yd) (p : Nat) (F : Nat → Nat) : Prop := ∀ pl st can, pl < 9 → st < 64 → can < 7 → F (stI pl st can) < 99999 → bRch A p pl st can (F (stI pl st can))
/-- nothing is won by going on, to a place before one -/
def sClT (A : fj_Yd) (F : Nat → Nat) (pl st can to : Nat) : Prop :=
  (∀ m, m < yn A → m + 1 < to → st.testBit m = true → yHs A (ymc A m) (sdf st (2 ^ m)) = 0 → 0 < can → F (stI (m + 1) (sdf st (2 ^ m)) (can - 1)) ≤ F (stI pl st can) + (yD A (bC A pl) (ymc A m) + 1)) ∧
  ∀ x, x < yq A → 7 + x < to → F (stI (7 + x) st (ycn A)) ≤ F (stI pl st can) + (yD A (bC A pl) (yoc A x) + 1)
def sGo (A : fj_Yd) (p : Nat) (F0 F : Nat → Nat) (b : Bool) (pl st can to : Nat) : Prop := (∀ i, F i ≤ F0 i) ∧ sSnd A p F ∧ (b = false → F = F0 ∧ sClT A F pl st can to) ∧ (b = true → ∃ i, i < 4032 ∧ F i < F0 i)
theorem sGo_upd {A : fj_Yd} (hV : fj_YV A) {p : Nat} {F0 F : Nat → Nat} {b : Bool} {pl st can to nx c : Nat} {pl2 st2 can2 : Nat} (h : sGo A p F0 F b pl st can to) (hst : st2 < 64) (hpl : pl2 < 9) (hcan : can2 < 7) (e : nx = stI pl2 st2 can2) (hx : bRch A p pl st can (F (stI pl st can)) → bRch A p pl2 st2 can2 (F (stI pl st can) + c)) (hr : pl < 9 ∧ st < 64 ∧ can < 7 ∧ F (stI pl st can) < 99999)
  (hcl : F nx ≤ F (stI pl st can) + c → sClT A F pl st can to → sClT A F pl st can (to + 1)) :
  sGo A p F0 (upF F nx (if F (stI pl st can) + c < F nx then F (stI pl st can) + c else F nx)) (b || decide (F (stI pl st can) + c < F nx)) pl st can (to + 1) := by
  obtain ⟨g1, g2, g3, g4⟩ := h
  obtain ⟨r1, r2, r3, r4⟩ := hr
  generalize hits : F (stI pl st can) + c = its at *
  have le1 : ∀ i, upF F nx (if its < F nx then its else F nx) i ≤ F i := fun i => by
    unfold upF
    by_cases ei : i = nx
    · rw [if_pos ei, ei]
      by_cases hl : its < F nx
      · rw [if_pos hl]; omega
      · rw [if_neg hl]; exact Nat.le_refl _
    · rw [if_neg ei]; exact Nat.le_refl _
  refine ⟨fun i => Nat.le_trans (le1 i) (g1 i), fun pl' st' can' h1 h2 h3 h4 => ?_, fun hb => ?_, fun hb => ?_⟩
  · unfold upF at h4 ⊢
    by_cases ei : stI pl' st' can' = nx
    · rw [if_pos ei] at h4 ⊢
      obtain ⟨i1, i2, i3⟩ := stI_inj h2 h3 hst hcan (ei.trans e)
      subst i1
      subst i2
      subst i3
      by_cases hl : its < F nx
      · rw [if_pos hl]
        exact hx (g2 pl st can r1 r2 r3 r4)
      · rw [if_neg hl] at h4 ⊢
        rw [← ei] at h4 ⊢
        exact g2 _ _ _ h1 h2 h3 h4
    · rw [if_neg ei] at h4 ⊢
      exact g2 _ _ _ h1 h2 h3 h4
  · rw [Bool.or_eq_false_iff, decide_eq_false_iff_not] at hb
    obtain ⟨k1, k2⟩ := g3 hb.1
    have eF : upF F nx (if its < F nx then its else F nx) = F := by
      funext i
      unfold upF
      by_cases ei : i = nx
      · rw [if_pos ei, if_neg hb.2, ei]
      · rw [if_neg ei]
    rw [eF]
    exact ⟨k1, hcl (by omega) k2⟩
  · rw [Bool.or_eq_true, decide_eq_true_iff] at hb
    by_cases hbt : b = true
    · obtain ⟨i, i1, i2⟩ := g4 hbt
      exact ⟨i, i1, Nat.lt_of_le_of_lt (le1 i) i2⟩
    · have hl : its < F nx := by
        rcases hb with z | z
        · exact absurd z hbt
        · exact z
      refine ⟨nx, by rw [e]; exact stI_lt hpl hst hcan, ?_⟩
      have := g1 nx
      unfold upF
      rw [if_pos rfl, if_pos hl]
      omega
theorem sB_up {M : fj_HM} {F : Nat → Nat} {nx v : Nat} (h : sB M F) (hv : v ≤ 99999) : sB (fj_up M 45 nx (nI v)) (upF F nx v) := by
  intro i hi
  unfold upF
  rw [fj_up_at]
  by_cases e : i = nx
  · rw [if_pos ⟨rfl, e⟩, if_pos e]; exact ⟨rfl, hv⟩
  · rw [if_neg (fun z => e z.2), if_neg e]; exact h i hi
