/-! ===== the two objects are made ===== -/
def okA (c : Nat) : List Value → Prop
  | [] => True
  | v :: l => fj_okv c v ∧ okA c l
theorem okA_iff (c : Nat) : ∀ l : List Value, (∀ v ∈ l, fj_okv c v) = okA c l
  | [] => propext ⟨fun _ => trivial, fun _ v hv => absurd hv (by simp)⟩
  | v :: l => by
    apply propext
    have ih := okA_iff c l
    show _ ↔ fj_okv c v ∧ okA c l
    rw [← ih]
    constructor
    · intro h
      exact ⟨h v (by simp), fun w hw => h w (by simp [hw])⟩
    · intro h w hw
      rcases List.mem_cons.mp hw with e | e
      · rw [e]; exact h.1
      · exact h.2 w e
theorem okl_A (c : Nat) (ls st : List Value) : fj_okl c ls st = (okA c ls ∧ okA c st) := by
  unfold fj_okl
  rw [okA_iff, okA_iff]
theorem okA_n (c : Nat) : okA c [] = True := rfl
theorem okA_c (c : Nat) (v : Value) (l : List Value) : okA c (v :: l) = (fj_okv c v ∧ okA c l) := rfl
theorem okv_r (c k : Nat) : fj_okv c (.ref k) = (k < c) := rfl
theorem okv_i (c : Nat) (k : Int32) : fj_okv c (.int k) = True := rfl
theorem okv_n (c : Nat) : fj_okv c .null = True := rfl
theorem okv_f (c : Nat) (f : UInt32) : fj_okv c (.float f) = True := rfl
theorem fj_shs : fj_sh 0 = (0, 6) ∧ fj_sh 1 = (0, 3) ∧ fj_sh 2 = (1, 240) ∧ fj_sh 3 = (1, 4) ∧ fj_sh 4 = (1, 4) ∧ fj_sh 5 = (0, 1) ∧ fj_sh 6 = (1, 8) ∧ fj_sh 7 = (1, 8) ∧ fj_sh 8 = (2, 8) ∧ fj_sh 9 = (0, 4) ∧ fj_sh 10 = (0, 0) ∧ fj_sh 11 = (1, 6) ∧ fj_sh 12 = (0, 2) ∧ fj_sh 13 = (1, 2688) ∧ fj_sh 14 = (1, 64) ∧ fj_sh 15 = (1, 6) ∧ fj_sh 16 = (1, 60) ∧ fj_sh 17 = (0, 5) ∧ fj_sh 18 = (1, 24) ∧ fj_sh 19 = (1, 6) ∧ fj_sh 20 = (1, 6) ∧ fj_sh 21 = (1, 6) ∧ fj_sh 22 = (1, 2) ∧ fj_sh 23 = (1, 24) ∧ fj_sh 24 = (1, 24) ∧ fj_sh 25 = (0, 5) ∧ fj_sh 26 = (1, 24) ∧ fj_sh 27 = (1, 6) ∧ fj_sh 28 = (1, 6) ∧ fj_sh 29 = (1, 6) ∧ fj_sh 30 = (1, 2) ∧ fj_sh 31 = (1, 24) ∧ fj_sh 32 = (1, 24) ∧ fj_sh 33 = (0, 7) ∧ fj_sh 34 = (1, 24) ∧ fj_sh 35 = (1, 6) ∧ fj_sh 36 = (1, 6) ∧ fj_sh 37 = (1, 6) ∧ fj_sh 38 = (1, 2) ∧ fj_sh 39 = (1, 24) ∧ fj_sh 40 = (1, 6) ∧ fj_sh 41 = (1, 6) ∧ fj_sh 42 = (1, 6) ∧ fj_sh 43 = (1, 2) ∧ fj_sh 44 = (1, 6) ∧ fj_sh 45 = (1, 4032) ∧ fj_sh 46 = (1, 8) ∧ fj_sh 47 = (1, 8) ∧ fj_sh 48 = (2, 8) ∧ fj_sh 49 = (1, 4) ∧ fj_sh 50 = (1, 4) ∧ fj_sh 51 = (1, 240) ∧ fj_sh 52 = (1, 60) := ⟨rfl, rfl, rfl, rfl, rfl, rfl, rfl, rfl, rfl, rfl, rfl, rfl, rfl, rfl, rfl, rfl, rfl, rfl, rfl, rfl, rfl, rfl, rfl, rfl, rfl, rfl, rfl, rfl, rfl, rfl, rfl, rfl, rfl, rfl, rfl, rfl, rfl, rfl, rfl, rfl, rfl, rfl, rfl, rfl, rfl, rfl, rfl, rfl, rfl, rfl, rfl, rfl, rfl⟩
theorem k_cl : (0 : Int32).toNatClampNeg = 0 ∧ (1 : Int32).toNatClampNeg = 1 ∧ (2 : Int32).toNatClampNeg = 2 ∧ (3 : Int32).toNatClampNeg = 3 ∧ (4 : Int32).toNatClampNeg = 4 ∧ (6 : Int32).toNatClampNeg = 6 ∧ (8 : Int32).toNatClampNeg = 8 ∧ (24 : Int32).toNatClampNeg = 24 ∧ (60 : Int32).toNatClampNeg = 60 ∧ (64 : Int32).toNatClampNeg = 64 ∧ (240 : Int32).toNatClampNeg = 240 ∧ (2688 : Int32).toNatClampNeg = 2688 ∧ (4032 : Int32).toNatClampNeg = 4032 := ⟨rfl, rfl, rfl, rfl, rfl, rfl, rfl, rfl, rfl, rfl, rfl, rfl, rfl⟩
theorem k_ob {c o ci : Nat} : fj_ob c o ci = (o < c ∧ fj_sh o = (0, ci)) := rfl
theorem k_ar {c o t : Nat} {j : Int32} : fj_ar c o t j = (o < c ∧ (fj_sh o).1 = t ∧ vp_in j (fj_sh o).2) := rfl
theorem k_in4 : vp_in 0 4 = True ∧ vp_in 1 4 = True ∧ vp_in 2 4 = True ∧ vp_in 3 4 = True := ⟨q_in (a := 0) (by decide), q_in (a := 1) (by decide), q_in (a := 2) (by decide), q_in (a := 3) (by decide)⟩
def fj_A (M : fj_HM) : fj_HM := (fj_ze (fj_ze (fj_ze (fj_ze (fj_ze (fj_ze (fj_ze (fj_ze (fj_ze (fj_ze (fj_ze (fj_ze (fj_ze (fj_ze (fj_ze (fj_ze (fj_ze (fj_ze (fj_ze (fj_ze (fj_ze (fj_ze (fj_ze (fj_ze (fj_ze (fj_ze (fj_ze (fj_ze (fj_ze (fj_up (fj_up (fj_up (fj_up (fj_ze (fj_ze (fj_ze M 1) 2) 3) 3 0 (-1)) 3 1 (-1)) 3 2 (-1)) 3 3 (-1)) 4) 5) 6) 7) 8) 9) 10) 11) 12) 13) 14) 15) 16) 17) 18) 19) 20) 21) 22) 23) 24) 25) 26) 27) 28) 29) 30) 31) 32)
def fj_B (P : fj_HP) : fj_HP := (fj_uP (fj_uP (fj_uP (fj_uP (fj_uP (fj_uP (fj_uP (fj_uP (fj_zP (fj_uP (fj_uP (fj_uP (fj_uP (fj_uP (fj_uP (fj_uP (fj_uP (fj_zP (fj_uP (fj_uP (fj_uP (fj_uP (fj_uP (fj_zP (fj_uP (fj_uP (fj_zP (fj_uP (fj_zP (fj_uP (fj_uP (fj_uP (fj_uP (fj_zP (fj_uP (fj_uP (fj_uP (fj_uP (fj_zP P 1) 1 0 3) 1 1 4) 1 2 5) 0 0 2) 5) 5 1 7) 5 2 8) 5 3 9) 0 1 6) 9) 0 2 10) 10) 10 0 12) 0 3 11) 12) 12 0 14) 12 1 15) 12 2 16) 0 4 13) 0 5 17) 17) 17 6 19) 17 7 20) 17 8 21) 17 9 22) 17 10 23) 17 11 24) 17 12 25) 0 6 18) 25) 25 6 27) 25 7 28) 25 8 29) 25 9 30) 25 10 31) 25 11 32) 25 12 33) 0 7 26)
def fj_A2 (M : fj_HM) : fj_HM := (fj_up (fj_up (fj_up (fj_up (fj_ze (fj_ze (fj_ze (fj_ze (fj_ze (fj_ze (fj_ze (fj_ze (fj_ze (fj_ze (fj_ze (fj_ze (fj_ze (fj_ze (fj_ze (fj_ze (fj_ze (fj_ze (fj_ze M 34) 35) 36) 37) 38) 39) 40) 41) 42) 43) 44) 45) 46) 47) 48) 49) 50) 51) 52) 49 0 (-1)) 49 1 (-1)) 49 2 (-1)) 49 3 (-1))
def fj_B2 (P : fj_HP) : fj_HP := (fj_uP (fj_uP (fj_uP (fj_uP (fj_uP (fj_uP (fj_uP (fj_uP (fj_uP (fj_uP (fj_uP (fj_uP (fj_uP (fj_uP (fj_uP (fj_uP (fj_uP (fj_uP (fj_uP P 33 3 35) 33 5 36) 33 6 37) 33 7 38) 33 9 39) 33 18 40) 33 19 41) 33 20 42) 33 21 43) 33 22 44) 33 29 45) 33 31 46) 33 33 47) 33 34 48) 33 35 49) 33 36 50) 33 37 51) 33 38 52) 33 39 53)
theorem m57 {M : fj_HM} {P : fj_HP} {Q : fj_Po} : fj_H none 57 0 [.ref 0] [] M P 1 10 Q = Q none (fj_A M) (fj_B P) 33 3336 := by
  simp only [fs57_0, fs57_1, fs57_4, fs57_5, fs57_8, fs57_8i, fs57_9, fs57_12, fs57_15, fs57_16, fs57_19, fs57_19i, fs57_20, fs57_23, fs57_26, fs57_27, fs57_30, fs57_30i, fs57_31, fs57_34, fs57_37, fs57_38, fs57_41, fs57_41i, fs57_42, fs57_45, fs57_48, fs57_49, fs57_52, fs57_52i, fs57_53, fs57_56, fs57_59, fs57_60, fs57_62, fs57_64, fs57_67, fs57_68, fs57_71, fs57_71i, fs57_72, fs57_75, fs57_78, fs57_79, fs57_82, fs57_82i, fs57_83, fs57_86, fs57_89, fs18_0, fs18_1, fs18_4, fs18_5, fs18_8, fs18_10, fs18_13, fs18_14, fs18_15, fs18_17, fs18_17i, fs18_18, fs18_19, fs18_20, fs18_21, fs18_21i, fs18_22, fs18_23, fs18_24, fs18_25, fs18_25i, fs18_26, fs18_27, fs18_28, fs18_29, fs18_29i, fs18_30, fs18_31, fs18_32, fs18_33, fs18_36, fs18_37, fs18_38, fs18_40, fs18_43, fs3_0, fs3_1, fs3_4, fs3_5, fs3_7, fs3_9, fs3_12, fs3_13, fs3_15, fs3_17, fs3_20, fs3_21, fs3_23, fs3_25, fs3_28, fs33_0, fs33_1, fs33_4, fs0_0, fs0_1, fs0_4, fs0_5, fs0_7, fs0_9, fs0_12, fs8_0, fs8_1, fs8_4, fs8_5, fs8_8, fs8_10, fs8_13, fs8_14, fs8_16, fs8_18, fs8_21, fs8_22, fs8_24, fs8_26, fs8_29, fs39_0, fs39_1, fs39_4, fs39_5, fs39_7, fs39_9, fs39_12, fs39_13, fs39_15, fs39_17, fs39_20, fs39_21, fs39_23, fs39_25, fs39_28, fs39_29, fs39_31, fs39_33, fs39_36, fs39_37, fs39_38, fs39_40, fs39_43, fs39_44, fs39_46, fs39_48, fs39_51, fs39_52, fs39_54, fs39_56, fs39_59, okl_A, okA_n, okA_c, okv_r, okv_i, okv_n, okv_f, fj_shs, k_cl, k_ob, k_ar, k_in4, Nat.reduceLT, Nat.reduceAdd, Nat.reduceEqDiff, Int32.reduceLE, true_and, and_true, and_self, true_or, or_true, eq_self, Option.toList_none, List.nil_append, List.cons_append]
  rfl
theorem fj_uP_at {P : fj_HP} {o k v o2 k2 : Nat} : fj_uP P o k v o2 k2 = if o2 = o ∧ k2 = k then v else P o2 k2 := rfl
theorem k_rv : fj_rv 50 = .ref 49 := rfl
theorem m96 {M : fj_HM} {P : fj_HP} {Q : fj_Po} : fj_H none 96 0 [.ref 33, .null] [] M P 34 3377 Q = Q none (fj_A2 M) (fj_B2 P) 53 7835 := by
  simp only [fs96_0, fs96_1, fs96_4, fs96_5, fs96_7, fs96_9, fs96_12, fs96_13, fs96_15, fs96_17, fs96_20, fs96_21, fs96_23, fs96_25, fs96_28, fs96_29, fs96_31, fs96_33, fs96_36, fs96_37, fs96_38, fs96_40, fs96_43, fs96_44, fs96_46, fs96_48, fs96_51, fs96_52, fs96_54, fs96_56, fs96_59, fs96_60, fs96_62, fs96_64, fs96_67, fs96_68, fs96_70, fs96_72, fs96_75, fs96_76, fs96_77, fs96_79, fs96_82, fs96_83, fs96_85, fs96_87, fs96_90, fs96_91, fs96_94, fs96_96, fs96_99, fs96_100, fs96_102, fs96_104, fs96_107, fs96_108, fs96_110, fs96_112, fs96_115, fs96_116, fs96_118, fs96_120, fs96_123, fs96_124, fs96_125, fs96_127, fs96_130, fs96_131, fs96_132, fs96_134, fs96_137, fs96_138, fs96_141, fs96_143, fs96_146, fs96_147, fs96_149, fs96_151, fs96_154, fs96_155, okl_A, okA_n, okA_c, okv_r, okv_i, okv_n, okv_f, fj_shs, k_cl, k_ob, k_ar, k_in4, Nat.reduceLT, Nat.reduceAdd, Nat.reduceEqDiff, Int32.reduceLE, true_and, and_true, and_self, true_or, or_true, eq_self, Option.toList_none, List.nil_append, List.cons_append]
  rw [fs96_156]
  simp only [fs96_157, fs96_158, fs96_161, fs96_162, fs96_165, fs96_166, fs96_167, fs96_168, fs96_171, okl_A, okA_n, okA_c, okv_r, okv_i, okv_n, okv_f, fj_shs, k_cl, k_ob, k_ar, k_in4, fj_uP_at, k_rv, Nat.reduceLT, Nat.reduceAdd, Nat.reduceEqDiff, Int32.reduceLE, Int32.reduceAdd, true_and, and_true, and_self, true_or, or_true, eq_self, if_true, if_false, false_and, and_false]
  rw [fs96_156]
  simp only [fs96_157, fs96_158, fs96_161, fs96_162, fs96_165, fs96_166, fs96_167, fs96_168, fs96_171, okl_A, okA_n, okA_c, okv_r, okv_i, okv_n, okv_f, fj_shs, k_cl, k_ob, k_ar, k_in4, fj_uP_at, k_rv, Nat.reduceLT, Nat.reduceAdd, Nat.reduceEqDiff, Int32.reduceLE, Int32.reduceAdd, true_and, and_true, and_self, true_or, or_true, eq_self, if_true, if_false, false_and, and_false]
  rw [fs96_156]
  simp only [fs96_157, fs96_158, fs96_161, fs96_162, fs96_165, fs96_166, fs96_167, fs96_168, fs96_171, okl_A, okA_n, okA_c, okv_r, okv_i, okv_n, okv_f, fj_shs, k_cl, k_ob, k_ar, k_in4, fj_uP_at, k_rv, Nat.reduceLT, Nat.reduceAdd, Nat.reduceEqDiff, Int32.reduceLE, Int32.reduceAdd, true_and, and_true, and_self, true_or, or_true, eq_self, if_true, if_false, false_and, and_false]
  rw [fs96_156]
  simp only [fs96_157, fs96_158, fs96_161, fs96_162, fs96_165, fs96_166, fs96_167, fs96_168, fs96_171, okl_A, okA_n, okA_c, okv_r, okv_i, okv_n, okv_f, fj_shs, k_cl, k_ob, k_ar, k_in4, fj_uP_at, k_rv, Nat.reduceLT, Nat.reduceAdd, Nat.reduceEqDiff, Int32.reduceLE, Int32.reduceAdd, true_and, and_true, and_self, true_or, or_true, eq_self, if_true, if_false, false_and, and_false]
  rw [fs96_156]
  simp only [fs96_157, fs96_158, fs96_174, Int32.reduceLE, if_true]
  rfl
/-- what stands before the first call -/
def fj_M0 : fj_HM := fj_A2 (fj_ze (fj_A (fj_ze (fun _ _ => 0) 0)) 33)
theorem fj_P0 : fj_B2 (fj_zP (fj_B (fj_zP (fun _ _ => 0) 0)) 33) = fj_PY true := by
  rw [← fj_PT_Y]
  rfl
theorem fj_I0 : fj_Iv true fj_M0 := by
  refine ⟨(0, 0, 0, 0, 0, 0, 0, fun _ => 0, fun _ => 0, fun _ => 0, fun _ => 0, fun _ => 0), (0, fun _ => 0, fun _ => 0, fun _ => true), ?_, ?_, ?_, ?_, ?_, ?_, ?_, ?_, rfl, rfl⟩
  · exact ⟨Or.inl ⟨rfl, rfl, rfl, rfl⟩, by decide, by decide, fun m hm => absurd hm (Nat.not_lt_zero m), fun m hm => absurd hm (Nat.not_lt_zero m), by decide, by decide, by decide⟩
  · exact ⟨rfl, rfl, rfl, rfl, rfl, rfl, fun m hm => absurd hm (Nat.not_lt_zero m), fun m hm => absurd hm (Nat.not_lt_zero m), fun m hm => absurd hm (Nat.not_lt_zero m)⟩
  · exact ⟨rfl, rfl, rfl, rfl, rfl, rfl, rfl, fun m hm => absurd hm (Nat.not_lt_zero m), fun m hm => absurd hm (Nat.not_lt_zero m), fun m hm => absurd hm (Nat.not_lt_zero m)⟩
  · exact ⟨Nat.zero_le _, fun m hm => absurd hm (Nat.not_lt_zero m)⟩
  · exact ⟨rfl, fun m hm => absurd hm (Nat.not_lt_zero m)⟩
  · exact ⟨rfl, fun m hm => absurd hm (Nat.not_lt_zero m)⟩
  · intro k hk
    rcases (show k = 0 ∨ k = 1 ∨ k = 2 ∨ k = 3 by omega) with rfl | rfl | rfl | rfl <;> exact Or.inl ⟨rfl, rfl, rfl⟩
  · intro o ho j hj
    refine ⟨0, by decide, ?_⟩
    rcases ho with rfl | rfl <;> rfl
