/-! ===== a step of the abstract machine is a step of the machine ===== -/
def fj_Wd (D : va_G) (cI cZ : ClassId) (ad : List Nat) (M : fj_HM) (P : fj_HP) (c : Nat) (A : Nat → Prop) (H0 H : Heap) (locs : List Loc) (s : State) : Prop :=
  ad.length = c ∧ va_P D fj_cl (fj_wl cI cZ ad M P) H ∧ va_K D fj_cl [(cI, .int), (cZ, .boolean)] s ∧ va_D A (fj_wl cI cZ ad M P) ∧ va_S A H0 H locs ∧ (∀ q, H0.size ≤ q → A q) ∧ ∀ o k, P o k ≤ c
def fj_Xs (sc : fj_Sc) (b : Nat) (A : Nat → Prop) (H0 : Heap) (s : State) : Prop := match sc with
  | some q => va_X b q.1 q.2 s H0 ∧ b < H0.size ∧ ¬ A b
  | none => True
def fj_Cx (p : Program) (R : Room) (s : State) (m : MethodId) (args : Array Value) (meth : Method) (cd : Code) (y : Nat) : Prop :=
  p.tables.exec = Jvm.exec ∧ cd.code = fj_bc y ∧ cd.maxLocals = fj_ml y ∧ s.vm.findClass (fj_ow y) = some m.cls ∧ (∀ w ∈ fj_T, w.before args s = true) ∧ (fj_ini y = true → meth.name = "<init>") ∧ fj_fr y ≤ R.frames ∧ fj_lo y ≤ R.locals ∧ ∀ w ∈ fj_N, va_Nw w s
/-- from every heap that holds the abstract state, at this place, the machine comes to Q -/
def fj_G (p : Program) (l : Launch) (e : Env) (R : Room) (s : State) (m : MethodId) (args : Array Value) (below : List Frame) (meth : Method) (cd : Code) (Q : State → Prop) (D : va_G) (cI cZ : ClassId) (A : Nat → Prop) (H0 : Heap) (b : Nat) (ad0 : List Nat) (c0 z0 nL : Nat) (pc : Nat) (ls st : List Value) (M : fj_HM) (P : fj_HP) (c z : Nat) : Prop :=
  ∀ (ad : List Nat) (H : Heap) (locs : List Loc) (lsA : Array Slot) (cells slots : Nat), cells + c0 = c → slots + z0 = z → ad0 <+: ad → ls.length = nL → fj_Wd D cI cZ ad M P c A H0 H locs s → fj_Lo b ad ls lsA → W p l e R s m args below meth cd H locs cells slots Q (F0 m pc lsA (st.map (fj_xv b ad)))
theorem fj_p1_some {st : List Value} {f : Int32 → List Value → fj_R} {q : fj_Nx ⊕ fj_Cl ⊕ Option Value} (h : fj_p1 st f = some q) : ∃ x r, st = .int x :: r ∧ f x r = some q := by
  unfold fj_p1 at h
  split at h
  · exact ⟨_, _, rfl, h⟩
  · cases h
theorem fj_p2_some {st : List Value} {f : Int32 → Int32 → List Value → fj_R} {q : fj_Nx ⊕ fj_Cl ⊕ Option Value} (h : fj_p2 st f = some q) : ∃ x y r, st = .int y :: .int x :: r ∧ f x y r = some q := by
  unfold fj_p2 at h
  split at h
  · exact ⟨_, _, _, rfl, h⟩
  · cases h
theorem fj_q2_some {st : List Value} {f : Int64 → Int64 → List Value → fj_R} {q : fj_Nx ⊕ fj_Cl ⊕ Option Value} (h : fj_q2 st f = some q) : ∃ x y r, st = .long y :: .long x :: r ∧ f x y r = some q := by
  unfold fj_q2 at h
  split at h
  · exact ⟨_, _, _, rfl, h⟩
  · cases h
theorem fj_ild_some {ls : List Value} {a : Nat} {f : Int32 → fj_R} {q : fj_Nx ⊕ fj_Cl ⊕ Option Value} (h : fj_ild ls a f = some q) : ∃ x, ls[a]? = some (.int x) ∧ f x = some q := by
  unfold fj_ild at h
  split at h
  · rename_i x hx; exact ⟨x, hx, h⟩
  · cases h
theorem fj_ald_some {ls : List Value} {a : Nat} {f : Value → fj_R} {q : fj_Nx ⊕ fj_Cl ⊕ Option Value} (h : fj_ald ls a f = some q) : (∃ x, ls[a]? = some (.ref x) ∧ f (.ref x) = some q) ∨ ∃ x, ls[a]? = some (.float x) ∧ f (.float x) = some q := by
  unfold fj_ald at h
  split at h
  · rename_i x hx; exact Or.inl ⟨x, hx, h⟩
  · rename_i x hx; exact Or.inr ⟨x, hx, h⟩
  · cases h
theorem fj_lld_some {ls : List Value} {a : Nat} {f : Int64 → fj_R} {q : fj_Nx ⊕ fj_Cl ⊕ Option Value} (h : fj_lld ls a f = some q) : ∃ x, ls[a]? = some (.long x) ∧ ls[a + 1]? = some fj_mk ∧ f x = some q := by
  unfold fj_lld at h
  split at h
  · rename_i x hx
    split at h
    · rename_i hm; exact ⟨x, hx, hm, h⟩
    · cases h
  · cases h
theorem fj_go_some {pc : Nat} {ls st : List Value} {M : fj_HM} {P : fj_HP} {c z : Nat} {q : fj_Nx} (h : fj_go pc ls st M P c z = some (.inl q)) : q = (pc, ls, st, M, P, c, z) := by
  unfold fj_go at h
  cases h
  rfl
/-- the classes, as the tables have them -/
theorem fj_cls {ci : Nat} {q : vw_C} (h : fj_cl[ci]? = some q) : q.2.2 = fj_nF ci ∧ (∀ w ∈ u_ws q.1 q.2.1 q.2.2, w ∈ fj_T) ∧ (∀ k, k < q.2.2 → (q.2.1 k).1 = q.1) ∧ (∀ a, a < q.2.2 → ∀ b, b < q.2.2 → a ≠ b → (q.2.1 a).2.1 ≠ (q.2.1 b).2.1) ∧ ∃ ty : Nat → FieldType, (∀ k, k < q.2.2 → parseFieldDescriptor (q.2.1 k).2.2.1 = some (ty k)) ∧ ∀ k, k < q.2.2 → (fj_isR ci k = true → (∃ n, ty k = .object n) ∨ ∃ t, ty k = .array t) ∧ (fj_isR ci k = false → ty k = .int) := by
  have inT : ∀ (C : String) (T : u_T) (N : Nat) (ps : List Nat), ((u_ws C T N).zip ps).all (fun q => fj_wd q.2 q.1) = true → (u_ws C T N).length = ps.length → ∀ w ∈ u_ws C T N, w ∈ fj_T := by
    intro C T N ps h1 h2 w hw
    obtain ⟨i, hi⟩ := List.getElem?_of_mem hw
    have hl : i < (u_ws C T N).length := (List.getElem?_eq_some_iff.mp hi).1
    have hz : ((u_ws C T N).zip ps)[i]? = some (w, ps[i]'(by omega)) := by
      rw [List.getElem?_zip_eq_some]
      exact ⟨hi, List.getElem?_eq_getElem (by omega)⟩
    exact fj_wd_ok (List.all_eq_true.mp h1 _ (List.mem_of_getElem? hz))
  match ci, h with
  | 0, h => cases h; exact ⟨rfl, inT _ _ _ (fj_lp.getD 0 []) (by decide +kernel) (by decide +kernel), by decide +kernel, nmX0, tyX0, tyX0_ok, fun k hk => by rcases (show k = 0 ∨ k = 1 ∨ k = 2 by simp at hk; omega) with rfl | rfl | rfl <;> simp [fj_isR, fj_rf, tyX0]⟩
  | 1, h => cases h; exact ⟨rfl, inT _ _ _ (fj_lp.getD 1 []) (by decide +kernel) (by decide +kernel), by decide +kernel, nmX1, tyX1, tyX1_ok, fun k hk => by rcases (show k = 0 ∨ k = 1 ∨ k = 2 ∨ k = 3 by simp at hk; omega) with rfl | rfl | rfl | rfl <;> simp [fj_isR, fj_rf, tyX1]⟩
  | 2, h => cases h; exact ⟨rfl, inT _ _ _ (fj_lp.getD 2 []) (by decide +kernel) (by decide +kernel), by decide +kernel, nmX2, tyX2, tyX2_ok, fun k hk => by rcases (show k = 0 ∨ k = 1 ∨ k = 2 by simp at hk; omega) with rfl | rfl | rfl <;> simp [fj_isR, fj_rf, tyX2]⟩
  | 3, h => cases h; exact ⟨rfl, inT _ _ _ (fj_lp.getD 3 []) (by decide +kernel) (by decide +kernel), by decide +kernel, nmX3, tyX3, tyX3_ok, fun k hk => by rcases (show k = 0 ∨ k = 1 ∨ k = 2 by simp at hk; omega) with rfl | rfl | rfl <;> simp [fj_isR, fj_rf, tyX3]⟩
  | 4, h => cases h; exact ⟨rfl, inT _ _ _ (fj_lp.getD 4 []) (by decide +kernel) (by decide +kernel), by decide +kernel, nmX4, tyX4, tyX4_ok, fun k hk => by rcases (show k = 0 ∨ k = 1 ∨ k = 2 ∨ k = 3 ∨ k = 4 ∨ k = 5 ∨ k = 6 by simp at hk; omega) with rfl | rfl | rfl | rfl | rfl | rfl | rfl <;> simp [fj_isR, fj_rf, tyX4]⟩
  | 5, h => cases h; exact ⟨rfl, inT _ _ _ (fj_lp.getD 5 []) (by decide +kernel) (by decide +kernel), by decide +kernel, nmX5, tyX5, tyX5_ok, fun k hk => by rcases (show k = 0 ∨ k = 1 ∨ k = 2 ∨ k = 3 ∨ k = 4 ∨ k = 5 ∨ k = 6 ∨ k = 7 ∨ k = 8 ∨ k = 9 ∨ k = 10 ∨ k = 11 ∨ k = 12 by simp at hk; omega) with rfl | rfl | rfl | rfl | rfl | rfl | rfl | rfl | rfl | rfl | rfl | rfl | rfl <;> simp [fj_isR, fj_rf, tyX5]⟩
  | 6, h => cases h; exact ⟨rfl, inT _ _ _ (fj_lp.getD 6 []) (by decide +kernel) (by decide +kernel), by decide +kernel, nmX6, tyX6, tyX6_ok, fun k hk => by rcases (show k = 0 ∨ k = 1 ∨ k = 2 ∨ k = 3 ∨ k = 4 ∨ k = 5 ∨ k = 6 ∨ k = 7 ∨ k = 8 ∨ k = 9 by simp at hk; omega) with rfl | rfl | rfl | rfl | rfl | rfl | rfl | rfl | rfl | rfl <;> simp [fj_isR, fj_rf, tyX6]⟩
  | 7, h =>
    cases h
    refine ⟨rfl, inT _ _ _ (fj_lp.getD 7 []) (by decide +kernel) (by decide +kernel), by decide +kernel, nmX7, tyX7, tyX7_ok, fun k hk => ?_⟩
    have key : (List.range 41).all (fun k => match fj_isR 7 k, tyX7 k with | true, .object _ => true | true, .array _ => true | false, .int => true | _, _ => false) = true := by decide +kernel
    have k1 := List.all_eq_true.mp key k (List.mem_range.mpr hk)
    cases hr : fj_isR 7 k <;> rw [hr] at k1
    · refine ⟨fun h => absurd h (by decide), fun _ => ?_⟩
      cases ht : tyX7 k <;> rw [ht] at k1 <;> first | rfl | simp at k1
    · refine ⟨fun _ => ?_, fun h => absurd h (by decide)⟩
      cases ht : tyX7 k <;> rw [ht] at k1 <;> first | exact Or.inl ⟨_, rfl⟩ | exact Or.inr ⟨_, rfl⟩ | simp at k1
  | n + 8, h => exact absurd h (by simp [fj_cl])
theorem fj_uP_le {P : fj_HP} {o k w c : Nat} (h : ∀ o k, P o k ≤ c) (hw : w < c) : ∀ o2 k2, fj_uP P o k (w + 1) o2 k2 ≤ c := by
  intro o2 k2
  unfold fj_uP
  split
  · exact hw
  · exact h o2 k2
theorem fj_zP_le {P : fj_HP} {o c : Nat} (h : ∀ o k, P o k ≤ c) : ∀ o2 k2, fj_zP P o o2 k2 ≤ c + 1 := by
  intro o2 k2
  unfold fj_zP
  split
  · exact Nat.zero_le _
  · exact Nat.le_succ_of_le (h o2 k2)
theorem fj_ze_self {M : fj_HM} {c : Nat} : fj_ze M c c = fun _ => 0 := by
  funext j
  simp [fj_ze]
