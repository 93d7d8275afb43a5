/-! ===== a run of the abstract machine is a run of the machine ===== -/
def fj_mo (c z : Nat) (r : fj_R) : Prop := ∀ q, r = some (.inl q) → c ≤ q.2.2.2.2.2.1 ∧ z ≤ q.2.2.2.2.2.2
theorem fj_mo_none {c z : Nat} : fj_mo c z none := fun q h => by cases h
theorem fj_mo_ca {c z y : Nat} {ls st : List Value} : fj_mo c z (fj_ca y ls st) := fun q h => by cases h
theorem fj_mo_re {c z : Nat} {v : Option Value} : fj_mo c z (fj_re v) := fun q h => by cases h
theorem fj_mo_go {c z c' z' pc : Nat} {ls st : List Value} {M : fj_HM} {P : fj_HP} (h1 : c ≤ c') (h2 : z ≤ z') : fj_mo c z (fj_go pc ls st M P c' z') := fun q h => by cases fj_go_some h; exact ⟨h1, h2⟩
theorem fj_mo_if {c z : Nat} {q : Prop} {a : fj_R} (h : fj_mo c z a) : fj_mo c z (fj_if q a none) := fun r hr => h r (fj_if_some hr).2
theorem fj_mo_p1 {c z : Nat} {st : List Value} {f : Int32 → List Value → fj_R} (h : ∀ x r, fj_mo c z (f x r)) : fj_mo c z (fj_p1 st f) := fun q hq => by
  obtain ⟨x, r, -, h2⟩ := fj_p1_some hq
  exact h x r q h2
theorem fj_mo_p2 {c z : Nat} {st : List Value} {f : Int32 → Int32 → List Value → fj_R} (h : ∀ x y r, fj_mo c z (f x y r)) : fj_mo c z (fj_p2 st f) := fun q hq => by
  obtain ⟨x, y, r, -, h2⟩ := fj_p2_some hq
  exact h x y r q h2
theorem fj_mo_q2 {c z : Nat} {st : List Value} {f : Int64 → Int64 → List Value → fj_R} (h : ∀ x y r, fj_mo c z (f x y r)) : fj_mo c z (fj_q2 st f) := fun q hq => by
  obtain ⟨x, y, r, -, h2⟩ := fj_q2_some hq
  exact h x y r q h2
theorem fj_mo_ild {c z : Nat} {ls : List Value} {a : Nat} {f : Int32 → fj_R} (h : ∀ x, fj_mo c z (f x)) : fj_mo c z (fj_ild ls a f) := fun q hq => by
  obtain ⟨x, -, h2⟩ := fj_ild_some hq
  exact h x q h2
theorem fj_mo_lld {c z : Nat} {ls : List Value} {a : Nat} {f : Int64 → fj_R} (h : ∀ x, fj_mo c z (f x)) : fj_mo c z (fj_lld ls a f) := fun q hq => by
  obtain ⟨x, -, -, h2⟩ := fj_lld_some hq
  exact h x q h2
theorem fj_mo_ald {c z : Nat} {ls : List Value} {a : Nat} {f : Value → fj_R} (h : ∀ x, fj_mo c z (f x)) : fj_mo c z (fj_ald ls a f) := fun q hq => by
  rcases fj_ald_some hq with ⟨x, -, h2⟩ | ⟨x, -, h2⟩
  · exact h _ q h2
  · exact h _ q h2
theorem fj_mo_sw {c z pc : Nat} {ins : Instr} {x : Int32} {f : Nat → fj_R} (h : ∀ t, fj_mo c z (f t)) : fj_mo c z (fj_sw ins pc x f) := fun q hq => by
  unfold fj_sw at hq
  repeat' split at hq
  all_goals first | exact h _ q hq | cases hq
set_option maxHeartbeats 4000000 in
set_option maxRecDepth 100000 in
theorem fj_stp_mo (y : Nat) (sc : fj_Sc) (ai : fj_AI) (pc : Nat) (ls st : List Value) (M : fj_HM) (P : fj_HP) (c z : Nat) : fj_mo c z (fj_stp y sc ai pc ls st M P c z) := by
  obtain ⟨ins, len, a, bb, k, ixs⟩ := ai
  unfold fj_stp
  repeat' (first
    | exact fj_mo_none
    | exact fj_mo_ca
    | exact fj_mo_re
    | exact fj_mo_go (Nat.le_refl _) (Nat.le_refl _)
    | exact fj_mo_go (Nat.le_succ _) (Nat.le_add_right _ _)
    | refine fj_mo_if ?_
    | refine fj_mo_p1 fun x r => ?_
    | refine fj_mo_p2 fun x y r => ?_
    | refine fj_mo_q2 fun x y r => ?_
    | refine fj_mo_ild fun x => ?_
    | refine fj_mo_lld fun x => ?_
    | refine fj_mo_ald fun x => ?_
    | refine fj_mo_sw fun x => ?_
    | split)
theorem fj_run_mo : ∀ (n : Nat) {sc : fj_Sc} {y pc : Nat} {ls st : List Value} {M : fj_HM} {P : fj_HP} {c z : Nat} {r : Option Value × fj_HM × fj_HP × Nat × Nat}, fj_run n sc y pc ls st M P c z = some r → c ≤ r.2.2.2.1 ∧ z ≤ r.2.2.2.2 := by
  intro n
  induction n with
  | zero => intro sc y pc ls st M P c z r h; cases h
  | succ n ih =>
    intro sc y pc ls st M P c z r h
    unfold fj_run at h
    split at h
    · cases h
    · rename_i ai hai
      split at h
      · cases h
      · rename_i q hq
        have h1 := fj_stp_mo y sc ai pc ls st M P c z q hq
        have h2 := ih h
        omega
      · rename_i q hq
        split at h
        · cases h
        · rename_i r1 hr1
          have h1 := ih hr1
          have h2 := ih (fj_if_some h).2
          omega
      · cases h
        exact ⟨Nat.le_refl _, Nat.le_refl _⟩
/-- behind a call, of any kind -/
theorem fj_call {p : Program} {l : Launch} {e : Env} {R : Room} {s : State} {m : MethodId} {args : Array Value} {below : List Frame} {meth : Method} {c : Code} {H : Heap} {locs : List Loc} {cells slots : Nat} {Q : State → Prop} {pc : Nat} {ls : Array Slot} {rest st0 : List Value} {A0 A1 : Nat → Prop} {H0 : Heap} {mc ms : Nat} {free : Addr → Prop} {Qa : State → Outcome → State → Prop} {B : Option Value → State → Prop}
    (hr : va_Run p l e R s m args below meth c H locs cells slots mc ms (F0 m pc ls st0) rest Qa free) (hQ : ∀ st v t, Qa st (.returned v) t → B v t ∧ va_F A1 st t) (hS : va_S A0 H0 H locs) (hA : ∀ q, q < H.size → A1 q → A0 q) (hf : ∀ q, free q → A0 q)
    (kk : ∀ (v : Option Value) (t : State) (H1 : Heap) (locs1 : List Loc), t.heap = H1 → B v t → va_S A0 H0 H1 locs1 → W p l e R s m args below meth c H1 locs1 (cells + mc) (slots + ms) Q (F0 m (pc + 3) ls (v.toList ++ rest))) : W p l e R s m args below meth c H locs cells slots Q (F0 m pc ls st0) := by
  intro T hT X
  obtain ⟨v, st₀, t, T', L, h0, X', hL, e1, e2, hq, st⟩ := hr T hT X
  obtain ⟨hb, hz, hk⟩ := hQ _ _ _ hq
  rw [h0] at hz hk
  obtain ⟨t2, a1, b1⟩ := kk v t T'.heap (locs ++ L) e1.symm hb
    ⟨Nat.le_trans hS.1 (by rw [e1]; exact hz), fun q h1 h2 => by rw [e1, hk q (Nat.lt_of_lt_of_le h1 hS.1) (fun z => h2 (hA q (Nat.lt_of_lt_of_le h1 hS.1) z))]; exact hS.2.1 q h1 h2, fun q hq => by
      rcases List.mem_append.mp hq with h | h
      · exact hS.2.2 q h
      · exact hf _ (hL q h)⟩ T' rfl X'
  exact ⟨t2, st t2 a1, b1⟩
theorem fj_good {w : Jvm.Cond} (h : w ∈ fj_T) : w ∈ fj_T ∧ ((w.onTables && w.keeps) = true ∨ ∃ ty, w = .arrayClass ty) := ⟨h, good_of_word (List.mem_filter.mp h).2⟩
theorem fj_N_warm {s U : State} (hW : s.WarmedH U.vm) (h : ∀ w ∈ fj_N, va_Nw w s) : ∀ w ∈ fj_N, va_Nw w U := by
  intro w hw
  have h1 := h w hw
  unfold fj_N at hw
  simp only [List.mem_cons, List.not_mem_nil, or_false] at hw
  rcases hw with rfl | rfl | rfl | rfl | rfl | rfl <;> exact va_Nw.warmM hW h1
theorem fj_N_same {s U : State} (hv : s.vm = U.vm) (h : ∀ w ∈ fj_N, va_Nw w s) : ∀ w ∈ fj_N, va_Nw w U := by
  intro w hw
  have h1 := h w hw
  unfold fj_N at hw
  simp only [List.mem_cons, List.not_mem_nil, or_false] at hw
  rcases hw with rfl | rfl | rfl | rfl | rfl | rfl <;> exact va_Nw.same rfl hv h1
/-- a method's start, its room, its end -/
def fj_B0 (D : va_G) (cI cZ : ClassId) (ad : List Nat) (M : fj_HM) (P : fj_HP) (sz : Nat) : State → Prop := fun U => U.heap.size = sz ∧ va_P D fj_cl (fj_wl cI cZ ad M P) U.heap ∧ va_K D fj_cl [(cI, .int), (cZ, .boolean)] U ∧ va_D (fun _ => True) (fj_wl cI cZ ad M P) ∧ ∀ w ∈ fj_N, va_Nw w U
def fj_B1 (D : va_G) (cI cZ : ClassId) (b : Nat) (ad : List Nat) (A : Nat → Prop) (v : Option Value) (M' : fj_HM) (P' : fj_HP) (c' : Nat) : Option Value → State → Prop := fun v' t => ∃ ad', ad <+: ad' ∧ ad'.length = c' ∧ (∀ o k, P' o k ≤ c') ∧ v' = v.map (fj_xv b ad') ∧ va_P D fj_cl (fj_wl cI cZ ad' M' P') t.heap ∧ va_D A (fj_wl cI cZ ad' M' P')
def fj_Qm (D : va_G) (cI cZ : ClassId) (b : Nat) (ad : List Nat) (A : Nat → Prop) (v : Option Value) (M' : fj_HM) (P' : fj_HP) (c' : Nat) : Array Value → State → Outcome → State → Prop := fun _ st oc t => (∃ v', oc = .returned v' ∧ fj_B1 D cI cZ b ad A v M' P' c' v' t) ∧ va_F A st t
def fj_rm (y mc ms : Nat) : Room := { frames := fj_fr y, cells := mc, slots := ms, locals := fj_lo y }
def fj_Met (l : Launch) (D : va_G) (cI cZ : ClassId) (b : Nat) (ad : List Nat) (sz : Nat) (y : Nat) (as : List Value) (M : fj_HM) (P : fj_HP) (c z : Nat) (v : Option Value) (M' : fj_HM) (P' : fj_HP) (c' z' : Nat) : Prop :=
  Met l (fj_yn y) (.code (fj_yn y) (fj_bc y) (fj_ml y) (fj_rt y) :: fj_T) (fj_rm y (c' - c) (z' - z)) (va_Pc (as.map (fj_xv b ad)) (fj_B0 D cI cZ ad M P sz)) (fj_Qm D cI cZ b ad (va_A (fj_wl cI cZ ad M P) sz) v M' P' c') (c' - c) (z' - z) (va_A (fj_wl cI cZ ad M P) sz)
def fj_Snd (n : Nat) : Prop := ∀ (y : Nat) (sc : fj_Sc) (pc : Nat) (ls st : List Value) (M : fj_HM) (P : fj_HP) (c z : Nat) (v : Option Value) (M' : fj_HM) (P' : fj_HP) (c' z' : Nat), fj_run n sc y pc ls st M P c z = some (v, M', P', c', z') →
  ∀ (p : Program) (l : Launch) (e : Env) (R : Room) (s : State) (m : MethodId) (args : Array Value) (below : List Frame) (meth : Method) (cd : Code) (Q : State → Prop) (D : va_G) (cI cZ : ClassId) (A : Nat → Prop) (H0 : Heap) (b : Nat) (ad0 : List Nat) (c0 z0 : Nat),
  fj_Cx p R s m args meth cd y → fj_Xs sc b A H0 s → c' ≤ c0 + R.cells → z' ≤ z0 + R.slots →
  (∀ (pcR : Nat) (lsR stR : List Value) (ai : fj_AI), fj_cd y pcR = some ai → fj_stp y sc ai pcR lsR stR M' P' c' z' = some (.inr (.inr v)) → fj_G p l e R s m args below meth cd Q D cI cZ A H0 b ad0 c0 z0 (fj_ml y) pcR lsR stR M' P' c' z') →
  fj_G p l e R s m args below meth cd Q D cI cZ A H0 b ad0 c0 z0 (fj_ml y) pc ls st M P c z
def fj_nr (r : fj_R) : Prop := ∀ v, r ≠ some (.inr (.inr v))
theorem fj_nr_none : fj_nr none := fun v h => by cases h
theorem fj_nr_ca {y : Nat} {ls st : List Value} : fj_nr (fj_ca y ls st) := fun v h => by cases h
theorem fj_nr_go {c z pc : Nat} {ls st : List Value} {M : fj_HM} {P : fj_HP} : fj_nr (fj_go pc ls st M P c z) := fun v h => by cases h
theorem fj_nr_if {q : Prop} {a : fj_R} (h : fj_nr a) : fj_nr (fj_if q a none) := fun r hr => h r (fj_if_some hr).2
theorem fj_nr_p1 {st : List Value} {f : Int32 → List Value → fj_R} (h : ∀ x r, fj_nr (f x r)) : fj_nr (fj_p1 st f) := fun q hq => by
  obtain ⟨x, r, -, h2⟩ := fj_p1_some hq
  exact h x r q h2
theorem fj_nr_p2 {st : List Value} {f : Int32 → Int32 → List Value → fj_R} (h : ∀ x y r, fj_nr (f x y r)) : fj_nr (fj_p2 st f) := fun q hq => by
  obtain ⟨x, y, r, -, h2⟩ := fj_p2_some hq
  exact h x y r q h2
theorem fj_nr_q2 {st : List Value} {f : Int64 → Int64 → List Value → fj_R} (h : ∀ x y r, fj_nr (f x y r)) : fj_nr (fj_q2 st f) := fun q hq => by
  obtain ⟨x, y, r, -, h2⟩ := fj_q2_some hq
  exact h x y r q h2
theorem fj_nr_ild {ls : List Value} {a : Nat} {f : Int32 → fj_R} (h : ∀ x, fj_nr (f x)) : fj_nr (fj_ild ls a f) := fun q hq => by
  obtain ⟨x, -, h2⟩ := fj_ild_some hq
  exact h x q h2
theorem fj_nr_lld {ls : List Value} {a : Nat} {f : Int64 → fj_R} (h : ∀ x, fj_nr (f x)) : fj_nr (fj_lld ls a f) := fun q hq => by
  obtain ⟨x, -, -, h2⟩ := fj_lld_some hq
  exact h x q h2
theorem fj_nr_ald {ls : List Value} {a : Nat} {f : Value → fj_R} (h : ∀ x, fj_nr (f x)) : fj_nr (fj_ald ls a f) := fun q hq => by
  rcases fj_ald_some hq with ⟨x, -, h2⟩ | ⟨x, -, h2⟩
  · exact h _ q h2
  · exact h _ q h2
theorem fj_nr_sw {pc : Nat} {ins : Instr} {x : Int32} {f : Nat → fj_R} (h : ∀ t, fj_nr (f t)) : fj_nr (fj_sw ins pc x f) := fun q hq => by
  unfold fj_sw at hq
  repeat' split at hq
  all_goals first | exact h _ q hq | cases hq
set_option maxHeartbeats 4000000 in
set_option maxRecDepth 100000 in
theorem fj_no_ret {y : Nat} {sc : fj_Sc} {ins : Instr} {x : Nat × Nat × Nat × Int × List Nat} {pc : Nat} {ls st : List Value} {M : fj_HM} {P : fj_HP} {c z : Nat} {v : Option Value} (h1 : ins ≠ .ireturn) (h2 : ins ≠ .lreturn) (h3 : ins ≠ .return_) : fj_stp y sc (ins, x) pc ls st M P c z ≠ some (.inr (.inr v)) := by
  have key : fj_nr (fj_stp y sc (ins, x) pc ls st M P c z) := by
    unfold fj_stp
    repeat' (first
      | exact fj_nr_none
      | exact fj_nr_ca
      | exact fj_nr_go
      | refine fj_nr_if ?_
      | refine fj_nr_p1 fun x r => ?_
      | refine fj_nr_p2 fun x y r => ?_
      | refine fj_nr_q2 fun x y r => ?_
      | refine fj_nr_ild fun x => ?_
      | refine fj_nr_lld fun x => ?_
      | refine fj_nr_ald fun x => ?_
      | refine fj_nr_sw fun x => ?_
      | contradiction
      | split)
  exact key v
/-- a method's contract, out of its run -/
theorem fj_met_of {n : Nat} (ih : fj_Snd n) {y : Nat} {as : List Value} {M : fj_HM} {P : fj_HP} {c z : Nat} {v : Option Value} {M' : fj_HM} {P' : fj_HP} {c' z' : Nat} (hrun : fj_run n none y 0 (fj_en y as) [] M P c z = some (v, M', P', c', z')) (hy : y < 165) (hnd : fj_nd y as) (l : Launch) (D : va_G) (cI cZ : ClassId) (b : Nat) (ad : List Nat) (sz : Nat) (hadl : ad.length = c) (hPc : ∀ o k, P o k ≤ c) : fj_Met l D cI cZ b ad sz y as M P c z v M' P' c' z' := by
  have hmo := fj_run_mo n hrun
  simp only at hmo
  have hY := fj_okY_of hy
  simp only [fj_okY, Bool.and_eq_true, decide_eq_true_eq] at hY
  obtain ⟨hpl, how, hin, hn1, hn2⟩ := hY
  refine Met.ofW (cc := fj_bc y) (maxL := fj_ml y) (ret := fj_rt y) hpl rfl ?_
  intro p e s m args below meth cd s₁ B hml hv
  obtain ⟨rfl, hsz, hP, hK, hD0, hN⟩ := hv
  have hts : ∀ w ∈ fj_T, w.before _ s = true := fun w hw => atoms_spec (ws := .code (fj_yn y) (fj_bc y) (fj_ml y) (fj_rt y) :: fj_T) B.pre w (List.mem_cons_of_mem _ hw)
  have hown : s.vm.findClass (fj_ow y) = some m.cls := by rw [how]; exact findClass_of_methodNamed B.named
  subst hsz
  have hD := hD0.self (sz := s.heap.size)
  have hA : ∀ q, s.heap.size ≤ q → va_A (fj_wl cI cZ ad M P) s.heap.size q := fun q h => Or.inr h
  have hl := lv_entry (as.map (fj_xv b ad)) (n := fj_ml y) (by rw [fj_sl_len b ad as hnd.1]; exact hnd.2)
  have hen : (fj_en y as).length = fj_ml y := by
    unfold fj_en
    rw [List.length_append, List.length_replicate]
    have := hnd.2
    omega
  rw [lg_entry_eq]
  refine ih y none 0 (fj_en y as) [] M P c z v M' P' c' z' hrun p l e (fj_rm y (c' - c) (z' - z)) s m _ below meth cd _ D cI cZ (va_A (fj_wl cI cZ ad M P) s.heap.size) s.heap b ad c z ⟨B.exec, B.bytes, hml, hown, hts, fun hi => ?_, Nat.le_refl _, Nat.le_refl _, hN⟩ trivial (by show c' ≤ c + (c' - c); omega) (by show z' ≤ z + (z' - z); omega) ?_ ad s.heap [] _ 0 0 (Nat.zero_add _) (Nat.zero_add _) (List.prefix_refl _) hen ⟨hadl, hP, hK, hD, va_S.rf, hA, hPc⟩ ⟨_, by rw [hen]; exact hl, fun i w hw => ?_⟩
  · rw [(name_of_methodNamed B.named B.method).1]
    rcases Bool.or_eq_true _ _ ▸ hin with h | h
    · rw [hi] at h; exact absurd h (by decide)
    · exact of_decide_eq_true h
  · have hlocks := B.notSynchronized
    intro pcR lsR stR ai hai hst ad' H locs lsA cells slots hcc hzz had hnl hW hLo
    obtain ⟨hadl', hP', hK', hD', hS', hA', hPc'⟩ := hW
    obtain rfl : cells = c' - c := by omega
    obtain rfl : slots = z' - z := by omega
    have ok := fj_okI_of hai
    obtain ⟨ins, len, a, bb, k, ixs⟩ := ai
    have hno : ∀ q, fj_stp y none (ins, len, a, bb, k, ixs) pcR lsR stR M' P' c' z' = some (.inl q) → False := fun q hq => by rw [hst] at hq; cases hq
    by_cases e1 : ins = .ireturn
    · subst e1
      simp only [fj_okI, Bool.and_eq_true, decide_eq_true_eq, beq_iff_eq, Bool.or_eq_true] at ok
      obtain ⟨hdg, rfl, hrt⟩ := ok
      dsimp only [fj_stp] at hst
      split at hst
      · rename_i x
        by_cases hb : fj_rt y = some .boolean
        · rw [if_pos hb] at hst
          obtain ⟨hz, hst⟩ := fj_if_some hst
          cases hst
          exact W.zret (v := x) (ty := .boolean) B.exec B.bytes (by rw [B.returns, hb]) (by rcases hz with rfl | rfl <;> rfl) (fun t ht hW => ⟨⟨_, rfl, ad', had, hadl', hPc', rfl, by rw [ht]; exact hP', hD'⟩, hS'.F ht⟩) hS'.2.2 hdg hlocks
        · rw [if_neg hb] at hst
          cases hst
          exact W.iret (v := x) B.exec B.bytes (by rw [B.returns]; rcases hrt with h | h; exact h; exact absurd h hb) (fun t ht hW => ⟨⟨_, rfl, ad', had, hadl', hPc', rfl, by rw [ht]; exact hP', hD'⟩, hS'.F ht⟩) hS'.2.2 hdg hlocks
      · cases hst
    · by_cases e2 : ins = .lreturn
      · subst e2
        simp only [fj_okI, Bool.and_eq_true, decide_eq_true_eq, beq_iff_eq] at ok
        obtain ⟨hdg, rfl, hrt⟩ := ok
        dsimp only [fj_stp] at hst
        split at hst
        · rename_i x
          cases hst
          exact W.lret (v := x) B.exec B.bytes (by rw [B.returns, hrt]) (fun t ht hW => ⟨⟨_, rfl, ad', had, hadl', hPc', rfl, by rw [ht]; exact hP', hD'⟩, hS'.F ht⟩) hS'.2.2 hdg hlocks
        · cases hst
      · by_cases e3 : ins = .return_
        · subst e3
          simp only [fj_okI, Bool.and_eq_true, decide_eq_true_eq, beq_iff_eq] at ok
          obtain ⟨hdg, rfl, hrt⟩ := ok
          dsimp only [fj_stp] at hst
          split at hst
          · cases hst
            exact W.vret B.exec B.bytes (by rw [B.returns, hrt]) (fun t ht hW => ⟨⟨_, rfl, ad', had, hadl', hPc', rfl, by rw [ht]; exact hP', hD'⟩, hS'.F ht⟩) hS'.2.2 hdg hlocks
          · cases hst
        · exact absurd hst (fj_no_ret e1 e2 e3)
  · have := fj_lv_pa b ad (fj_ml y - (fj_pa as).length) as hnd.1 0 i w hw
    rwa [Nat.add_zero] at this
