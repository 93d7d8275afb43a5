/-! ===== what holds of both, between two calls ===== -/
def fj_S1 (M : fj_HM) (k : Nat) : Prop := (M 49 k = -1 ∧ M 3 k = -1 ∧ M 4 k = 0) ∨ ∃ n l, n ≤ 60 ∧ l ≤ 2 ∧ M 49 k = nI n ∧ M 4 k = nI n ∧ M 3 k = nI l ∧ M 50 k = nI l ∧ ∀ i, i < n → M 2 (60 * k + i) = M 51 (60 * k + i)
def fj_RM (M : fj_HM) (R : fj_Rd) : Prop := M 33 32 = nI R.1 ∧ ∀ x, x < R.1 → M 46 x = nI (R.2.1 x) ∧ M 47 x = nI (R.2.2.1 x) ∧ M 48 x = bI (R.2.2.2 x)
def fj_MB (M : fj_HM) : Prop := ∀ o, (o = 17 ∨ o = 25) → ∀ j, j < 6 → ∃ d, d < 24 ∧ M (o + 4) j = nI d
def fj_In (t : Bool) (M : fj_HM) (A : fj_Yd) (R : fj_Rd) : Prop := fj_YV A ∧ fj_YC (yo t) M A ∧ fj_YM M A ∧ fj_RV A R ∧ fj_RC M R ∧ fj_RM M R ∧ (∀ k, k < 4 → fj_S1 M k) ∧ fj_MB M ∧ M 0 8 = M 33 40 ∧ M 0 9 = M 33 0
def fj_Iv (t : Bool) (M : fj_HM) : Prop := ∃ A R, fj_In t M A R
def isI (r : Option Value) : Prop := ∃ w, r = some (.int w)
def isL (r : Option Value) : Prop := ∃ w, r = some (.long w)
def fj_fin (ok : Option Value → Prop) (r1 r2 : Option Value) (M2 : fj_HM) (P2 : fj_HP) (c2 z2 : Nat) : Prop := c2 = 53 ∧ z2 = 7835 ∧ r2 = r1 ∧ ok r1 ∧ ∃ t', P2 = fj_PY t' ∧ fj_Iv t' M2
/-- the class's method, then the reference's: the same answer, and all holds again -/
def fj_pr (ok : Option Value → Prop) (t : Bool) (M : fj_HM) (y1 : Nat) (l1 : List Value) (y2 : Nat) (l2 : List Value) : Prop := fj_H none y1 0 l1 [] M (fj_PY t) 53 7835 (fun r1 M1 P1 c1 z1 => c1 = 53 ∧ z1 = 7835 ∧ fj_H none y2 0 l2 [] M1 P1 53 7835 (fj_fin ok r1))
theorem fj_fin_i {t : Bool} {M : fj_HM} {A : fj_Yd} {R : fj_Rd} (h : fj_In t M A R) (w : Int32) : fj_fin isI (some (.int w)) (some (.int w)) M (fj_PY t) 53 7835 := ⟨rfl, rfl, rfl, ⟨w, rfl⟩, t, rfl, A, R, h⟩
theorem fj_fin_l {t : Bool} {M : fj_HM} {A : fj_Yd} {R : fj_Rd} (h : fj_In t M A R) (w : Int64) : fj_fin isL (some (.long w)) (some (.long w)) M (fj_PY t) 53 7835 := ⟨rfl, rfl, rfl, ⟨w, rfl⟩, t, rfl, A, R, h⟩
theorem fj_YM_cg {M M' : fj_HM} {A : fj_Yd} (h : ∀ o, 34 ≤ o → o ≤ 38 → M' o = M o) (h3 : ∀ k, 1 ≤ k → k ≤ 12 → M' 33 k = M 33 k) (hY : fj_YM M A) : fj_YM M' A := by
  obtain ⟨a1, a2, a3, a4, a5, a6, a7, a8, a9, a10⟩ := hY
  refine ⟨?_, ?_, ?_, ?_, ?_, ?_, ?_, ?_, ?_, ?_⟩
  · rw [h3 1 (by decide) (by decide)]; exact a1
  · rw [h3 2 (by decide) (by decide)]; exact a2
  · rw [h3 4 (by decide) (by decide)]; exact a3
  · rw [h3 8 (by decide) (by decide)]; exact a4
  · rw [h3 12 (by decide) (by decide)]; exact a5
  · rw [h3 10 (by decide) (by decide)]; exact a6
  · rw [h3 11 (by decide) (by decide)]; exact a7
  · rw [h 34 (by decide) (by decide)]; exact a8
  · rw [h 35 (by decide) (by decide), h 36 (by decide) (by decide), h 37 (by decide) (by decide)]; exact a9
  · rw [h 38 (by decide) (by decide)]; exact a10
theorem fj_In_fr {t : Bool} {M M' : fj_HM} {A : fj_Yd} {R : fj_Rd} (h : fj_In t M A R) (h1 : ∀ o, (2 ≤ o ∧ o ≤ 8) ∨ (17 ≤ o ∧ o ≤ 32) ∨ (34 ≤ o ∧ o ≤ 38) ∨ (46 ≤ o ∧ o ≤ 51) → M' o = M o) (h8 : M' 0 8 = M' 33 40) (h9 : M' 0 9 = M' 33 0) (h3 : ∀ k, (1 ≤ k ∧ k ≤ 12) ∨ k = 32 → M' 33 k = M 33 k) : fj_In t M' A R := by
  obtain ⟨a1, a2, a3, a4, a5, a6, a7, a8, a9, a10⟩ := h
  have hyo := yo_or t
  refine ⟨a1, fj_YC_cg (fun i hi j => by rw [h1 _ (by omega)]) a2, fj_YM_cg (fun o b1 b2 => h1 o (by omega)) (fun k b1 b2 => h3 k (by omega)) a3, a4, ?_, ?_, ?_, ?_, h8, h9⟩
  · unfold fj_RC
    rw [h1 5 (by decide), h1 6 (by decide), h1 7 (by decide), h1 8 (by decide)]
    exact a5
  · unfold fj_RM
    rw [h3 32 (by decide), h1 46 (by decide), h1 47 (by decide), h1 48 (by decide)]
    exact a6
  · unfold fj_S1
    rw [h1 49 (by decide), h1 3 (by decide), h1 4 (by decide), h1 50 (by decide), h1 2 (by decide), h1 51 (by decide)]
    exact a7
  · intro o ho j hj
    rw [h1 (o + 4) (by omega)]
    exact a8 o ho j hj
/-- a fault, told by both -/
theorem fj_In_f {t : Bool} {M : fj_HM} {A : fj_Yd} {R : fj_Rd} (h : fj_In t M A R) (v : Int32) : fj_In t (fj_up (fj_up M 0 9 v) 33 0 v) A R := by
  refine fj_In_fr h (fun o ho => ?_) ?_ ?_ (fun k hk => ?_)
  · funext j
    rw [fj_up_at, if_neg (by omega), fj_up_at, if_neg (by omega)]
  · simp only [fj_up_at]
    exact h.2.2.2.2.2.2.2.2.1
  · rfl
  · rw [fj_up_at, if_neg (by omega), fj_up_at, if_neg (by omega)]
theorem q_place {n : Nat} (hn : n < 100000) (v : Int32) : ((v < 0) = True) ∨ ((v < 0) = False ∧ (nI n ≤ v) = True) ∨ ∃ c, c < n ∧ v = nI c ∧ (nI c < 0) = False ∧ (nI n ≤ nI c) = False := by
  by_cases h0 : v < 0
  · exact Or.inl (eq_true h0)
  · by_cases h1 : nI n ≤ v
    · exact Or.inr (Or.inl ⟨eq_false h0, eq_true h1⟩)
    · obtain ⟨c, hc, rfl⟩ := inN_of hn ⟨h0, h1⟩
      exact Or.inr (Or.inr ⟨c, hc, rfl, eq_false h0, eq_false h1⟩)
theorem pr_inside {t : Bool} {M : fj_HM} (h : fj_Iv t M) (v : Int32) : fj_pr isI t M 60 [.ref 0, .int v] 115 [.ref 33, .int v] := by
  obtain ⟨A, R, h⟩ := h
  obtain ⟨hV, hC, hM, -⟩ := id h
  have hc := yc_le hV
  unfold fj_pr
  rcases q_place (n := yc A) (by omega) v with e | ⟨e, e'⟩ | ⟨c, hc', rfl, e, e'⟩
  · simp only [fs60_0, fs60_1, fs60_4, fs60_5, fs60_8, fs60_11, fs60_12, fs115_0, fs115_1, fs115_2, fs115_5, fs115_8, fs115_9, fs115_18, m41 (yo_or t), m105 hV hM, fj_PV t, fj_YO (yo_or t) t, fj_OB, fj_AR, fj_CI, q_zo0, q_zo1, Option.toList_some, Option.toList_none, List.cons_append, List.nil_append, true_and, and_true, true_or, if_true, if_false, q_l10, q_l01, eq_self, Int32.reduceLT, Int32.reduceLE, Int32.reduceAdd, Int32.reduceSub, fj_up_at, Nat.reduceEqDiff, false_and, and_false, and_self, reduceCtorEq, Nat.reduceAdd, hC.1, e]
    exact fj_fin_i h _
  · simp only [fs60_0, fs60_1, fs60_4, fs60_5, fs60_8, fs60_11, fs60_12, fs115_0, fs115_1, fs115_2, fs115_5, fs115_8, fs115_9, fs115_18, m41 (yo_or t), m105 hV hM, fj_PV t, fj_YO (yo_or t) t, fj_OB, fj_AR, fj_CI, q_zo0, q_zo1, Option.toList_some, Option.toList_none, List.cons_append, List.nil_append, true_and, and_true, true_or, if_true, if_false, q_l10, q_l01, eq_self, Int32.reduceLT, Int32.reduceLE, Int32.reduceAdd, Int32.reduceSub, fj_up_at, Nat.reduceEqDiff, false_and, and_false, and_self, reduceCtorEq, Nat.reduceAdd, hC.1, e, e']
    exact fj_fin_i h _
  · obtain ⟨b1, -⟩ := hC.2.2.2.2.2.2.1 c hc'
    have b2 := hM.2.2.2.2.2.2.2.1 c hc'
    simp only [fs60_0, fs60_1, fs60_4, fs60_5, fs60_8, fs60_11, fs60_12, fs60_13, fs60_14, fs60_17, fs60_20, fs60_21, fs60_22, fs115_0, fs115_1, fs115_2, fs115_5, fs115_8, fs115_9, fs115_12, fs115_13, fs115_16, fs115_17, fs115_18, m41 (yo_or t), m105 hV hM, fj_PV t, fj_YO (yo_or t) t, fj_OB, fj_AR, fj_CI, q_zo0, q_zo1, Option.toList_some, Option.toList_none, List.cons_append, List.nil_append, true_and, and_true, true_or, if_true, if_false, q_l10, q_l01, eq_self, Int32.reduceLT, Int32.reduceLE, Int32.reduceAdd, Int32.reduceSub, fj_up_at, Nat.reduceEqDiff, false_and, and_false, and_self, reduceCtorEq, Nat.reduceAdd, hC.1, e, e', q_in (show c < 24 by omega), q_clamp (show c < 100000 by omega), b1, b2]
    exact fj_fin_i h _
