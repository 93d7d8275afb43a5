/-! THE CLAIM OUT OF ONE WALK OF THE LAW'S BODY. Your part is whole_start (and what it stands on); all else here is the same for every law, but numbers. -/
def R_law : String := "FortyJarsLaw"
def lw_P (b : Addr) (xs : List Int32) (args : Array Value) (s : State) : Prop := args = #[.ref b] ∧ s.IntsAt b xs ∧ xs.length ≤ 3072 ∧ (Jvm.Cond.and given_1 narrow_1).before args s = true
def lw_Q (_ : Array Value) (s : State) (o : Outcome) (t : State) : Prop := o = .returned (some (.int 1)) ∧ Framed s o t [] 53 7835
def lw_Z (below : List Frame) (a : Array Value) (s : State) : State → Prop := fun t => ∃ o, t.status = .running ∧ Ended t below o ∧ lw_Q a s o t
/-- the law's own end, with 1 on the stack, nothing written that was there before, its room as the claim has it -/
theorem lw_ret {p : Program} {l : Launch} {e : Env} {s : State} {m : MethodId} {below : List Frame} {meth : Method} {c : Code} {b : Nat} (hx : p.tables.exec = Jvm.exec) (hb : c.code = code) (hr : meth.sig.returnType = ret) (hlocks : meth.locks = false) {pc : Nat} {H : Heap} {ls : Array Slot} (hdg : decode code pc = .ok (.ireturn, 1)) : W p l e room_1 s m #[Value.ref b] below meth c H [] 53 7835 (lw_Z below #[Value.ref b] s) (F0 m pc ls [.int 1]) := by
  intro T hT X
  obtain ⟨fs, hret, hrun, hended, hW, hframe⟩ := X.leave (v := some (.int 1)) (hlocks := hlocks) (fun h => by rw [hr] at h; cases h)
  have hmeth' : T.vm.method? m = some meth := X.method'
  refine ⟨T.setFrames fs, ?_, .returned (some (.int 1)), hrun, hended, rfl, ⟨_, rfl⟩, hW, hframe⟩
  jvm_step X.here [X.here.top, hx, hb, hdg, hmeth', hr, ret, narrow_b1]
  (try refine ⟨rfl, ?_⟩); (try refine ⟨rfl, ?_⟩)
  first | (intro acts; rw [hret _ acts rfl rfl rfl]) | rw [hret _ _ rfl rfl rfl]
  exact Steps.refl _
/-- what holds at the law's entry: the machine, the code, the tables' words (any of lw_tbl by 'hts w (by decide +kernel)'), the script of L ints xs at the cell b, what the Statement gives of the start (any of its parts by flat_of_before) -/
def lw_At (p : Program) (s : State) (m : MethodId) (meth : Method) (c : Code) (b L : Nat) (xs : Nat → Int32) : Prop :=
  p.tables.exec = Jvm.exec ∧ c.code = code ∧ meth.sig.returnType = ret ∧ c.maxLocals = 4 ∧ s.vm.findClass R_law = some m.cls ∧ (∀ w ∈ lw_tbl, w.before #[Value.ref b] s = true) ∧ va_X b L xs s s.heap ∧ b < s.heap.size ∧ meth.locks = false ∧ (Jvm.Cond.and given_1 narrow_1).before #[Value.ref b] s = true
theorem fj_inst0 : Cond.instantiable RX0 3 ∈ fj_T := fj_wd_ok (i := 146) (by decide +kernel)
theorem fj_inst1 : Cond.instantiable RX1 4 ∈ fj_T := fj_wd_ok (i := 90) (by decide +kernel)
theorem fj_inst2 : Cond.instantiable RX2 3 ∈ fj_T := fj_wd_ok (i := 165) (by decide +kernel)
theorem fj_inst3 : Cond.instantiable RX3 3 ∈ fj_T := fj_wd_ok (i := 73) (by decide +kernel)
theorem fj_inst4 : Cond.instantiable RX4 7 ∈ fj_T := fj_wd_ok (i := 111) (by decide +kernel)
theorem fj_inst5 : Cond.instantiable RX5 13 ∈ fj_T := fj_wd_ok (i := 181) (by decide +kernel)
theorem fj_inst6 : Cond.instantiable RX6 10 ∈ fj_T := fj_wd_ok (i := 65) (by decide +kernel)
theorem fj_inst7 : Cond.instantiable RX7 41 ∈ fj_T := fj_wd_ok (i := 666) (by decide +kernel)
/-! ===== the law from its entry, out of its run on the abstract machine ===== -/
/-- what the abstract run of the law must be -/
def fj_lawOk (L : Nat) (xs : Nat → Int32) : Prop := ∃ (n : Nat) (M' : fj_HM) (P' : fj_HP), fj_run n (some (L, xs)) 165 0 [.float 0, .null, .null, .null] [] (fun _ _ => 0) (fun _ _ => 0) 0 0 = some (some (.int 1), M', P', 53, 7835)
theorem fj_arr {args : Array Value} {s : State} {ty : FieldType} (h : (Cond.arrayClass ty).before args s = true) : ∃ cA, ArrOfT s cA ty ∧ s.vm.findClass ("[" ++ ty.toString) = some cA := by
  obtain ⟨cA, kA, comp, hfind, hk, hkind⟩ := Cond.arrayClass_spec h
  exact ⟨cA, fun n z => ⟨fun k h => (by cases h), kA, hk, comp, hkind⟩, hfind⟩
set_option maxHeartbeats 4000000 in
set_option maxRecDepth 100000 in
theorem fj_start {p : Program} {e : Env} {s : State} {m : MethodId} {below : List Frame} {meth : Method} {c : Code} (l : Launch) {b L : Nat} {xs : Nat → Int32} (hrun : fj_lawOk L xs) (C0 : lw_At p s m meth c b L xs) : W p l e room_1 s m #[Value.ref b] below meth c s.heap [] 0 0 (lw_Z below #[Value.ref b] s) (entryFrame m ([Value.ref b] : List Value).toArray 4) := by
  obtain ⟨n, M', P', hrun⟩ := hrun
  obtain ⟨hx, hb, hr, hml, hown, hts, hX, hbl, hlocks, hgv⟩ := id C0
  have htsT : ∀ w ∈ fj_T, w.before #[Value.ref b] s = true := fun w hw => hts w (List.mem_filter.mp hw).1
  obtain ⟨cI, hI1, hI2⟩ := fj_arr (htsT (.arrayClass .int) (fj_wd_ok (i := fj_ap.getD 0 0) (by decide +kernel)))
  obtain ⟨cZ, hZ1, hZ2⟩ := fj_arr (htsT (.arrayClass .boolean) (fj_wd_ok (i := fj_ap.getD 1 0) (by decide +kernel)))
  have hkn : ∀ ci : Nat, ∃ (dC : ClassId) (dI : Nat → Nat), ∀ q : vw_C, fj_cl[ci]? = some q → u_Kn s q.1 q.2.1 q.2.2 dC dI := by
    intro ci
    cases hq : fj_cl[ci]? with
    | none => exact ⟨0, fun _ => 0, fun q h => by cases h⟩
    | some q =>
      obtain ⟨h1, h2, h3⟩ := fj_cls hq
      have hinst : Cond.instantiable q.1 q.2.2 ∈ fj_T := by
        match ci, hq with
        | 0, hq => cases hq; exact fj_inst0
        | 1, hq => cases hq; exact fj_inst1
        | 2, hq => cases hq; exact fj_inst2
        | 3, hq => cases hq; exact fj_inst3
        | 4, hq => cases hq; exact fj_inst4
        | 5, hq => cases hq; exact fj_inst5
        | 6, hq => cases hq; exact fj_inst6
        | 7, hq => cases hq; exact fj_inst7
        | n + 8, hq => exact absurd hq (by simp [fj_cl])
      obtain ⟨dC, dI, hk⟩ := u_known (n := q.2.2) htsT h2 (htsT _ hinst)
      exact ⟨dC, dI, fun q' h => by cases h; exact hk⟩
  let D : va_G := (fun ci => Classical.choose (hkn ci), fun ci => Classical.choose (Classical.choose_spec (hkn ci)))
  have hK : va_K D fj_cl [(cI, .int), (cZ, .boolean)] s := by
    refine ⟨fun ci q hq => Classical.choose_spec (Classical.choose_spec (hkn ci)) q hq, fun k q hq => ?_⟩
    match k, hq with
    | 0, hq => cases hq; exact ⟨hI1, hI2⟩
    | 1, hq => cases hq; exact ⟨hZ1, hZ2⟩
    | k + 2, hq => simp at hq
  have hN : ∀ w ∈ fj_N, va_Nw w s := by
    intro w hw
    have key : (fj_N.zip fj_np).all (fun q => decide (lw_tbl[q.2]? = some q.1)) = true := by decide +kernel
    obtain ⟨i, hi⟩ := List.getElem?_of_mem hw
    have hl : i < fj_N.length := (List.getElem?_eq_some_iff.mp hi).1
    have hl2 : fj_N.length = fj_np.length := rfl
    have hz : (fj_N.zip fj_np)[i]? = some (w, fj_np[i]'(by omega)) := by
      rw [List.getElem?_zip_eq_some]
      exact ⟨hi, List.getElem?_eq_getElem (by omega)⟩
    have hm : w ∈ lw_tbl := List.mem_of_getElem? (of_decide_eq_true (List.all_eq_true.mp key _ (List.mem_of_getElem? hz)))
    have h1 := hts w hm
    unfold fj_N at hw
    simp only [List.mem_cons, List.not_mem_nil, or_false] at hw
    rcases hw with rfl | rfl | rfl | rfl | rfl | rfl <;> exact va_Nw.of rfl h1
  have hbA : ¬ s.heap.size ≤ b := Nat.not_le.mpr hbl
  have hl := lv_entry ([.ref b]) (n := 4) (Nat.le_of_ble_eq_true rfl)
  rw [lg_entry_eq]
  refine fj_snd n 165 (some (L, xs)) 0 [.float 0, .null, .null, .null] [] _ _ 0 0 _ M' P' 53 7835 hrun p l e room_1 s m #[Value.ref b] below meth c _ D cI cZ (fun q => s.heap.size ≤ q) s.heap b [] 0 0 ⟨hx, hb, hml, hown, htsT, fun h => absurd h (by decide), by decide, by decide, hN⟩ ⟨hX, hbl, hbA⟩ (by decide) (by decide) ?_ [] s.heap [] _ 0 0 rfl rfl (List.prefix_refl _) rfl ⟨rfl, fun k q h => by simp [fj_wl] at h, hK, ⟨fun i j p q h => by simp [fj_wl] at h, fun k q h => by simp [fj_wl] at h⟩, va_S.rf, fun _ h => h, fun _ _ => Nat.zero_le _⟩ ⟨_, hl, fun i v hv => ?_⟩
  · intro pcR lsR stR ai hai hst ad' H locs lsA cells slots hcc hzz had hnl hW hLo
    obtain ⟨hadl', hP', hK', hD', hS', hA', hPc'⟩ := hW
    have ok := fj_okI_of hai
    obtain ⟨ins, len, a, bb, k, ixs⟩ := ai
    by_cases e1 : ins = .ireturn
    · subst e1
      simp only [fj_okI, Bool.and_eq_true, decide_eq_true_eq, beq_iff_eq, Bool.or_eq_true] at ok
      obtain ⟨hdg, rfl, hrt⟩ := ok
      dsimp only [fj_stp] at hst
      split at hst
      · rename_i x
        have hx1 : x = 1 := by
          split at hst
          · have := (fj_if_some hst).2
            cases this
            rfl
          · cases hst
            rfl
        subst hx1
        refine va_forget hS'.2.2 (W.widen (k := 53) (n := 7835) (by omega) (by omega) ?_)
        exact lw_ret hx hb hr hlocks hdg
      · cases hst
    · by_cases e2 : ins = .lreturn
      · subst e2
        simp only [fj_okI, Bool.and_eq_true, decide_eq_true_eq, beq_iff_eq] at ok
        exact absurd ok.2.2 (by decide)
      · by_cases e3 : ins = .return_
        · subst e3
          simp only [fj_okI, Bool.and_eq_true, decide_eq_true_eq, beq_iff_eq] at ok
          exact absurd ok.2.2 (by decide)
        · exact absurd hst (fj_no_ret e1 e2 e3)
  · match i, hv with
    | 0, hv => simp [fj_lv] at hv; subst hv; exact List.mem_cons_self
    | 1, hv => simp [fj_lv] at hv
    | 2, hv => simp [fj_lv] at hv
    | 3, hv => simp [fj_lv] at hv
    | i + 4, hv => simp [fj_lv] at hv
