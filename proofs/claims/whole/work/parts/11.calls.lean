/-! ===== calls, and the whole ===== -/
theorem fj_take_at {α : Type} {st : List α} {b : Nat} {v : α} (h : st[b]? = some v) : (st.take (b + 1)).reverse = v :: (st.take b).reverse ∧ st = (st.take b) ++ v :: st.drop (b + 1) := by
  have hl : b < st.length := (List.getElem?_eq_some_iff.mp h).1
  have e : st[b] = v := (List.getElem?_eq_some_iff.mp h).2
  constructor
  · rw [List.take_succ_eq_append_getElem hl, e, List.reverse_append]
    rfl
  · conv => lhs; rw [← List.take_append_drop b st, List.drop_eq_getElem_cons hl, e]
theorem fj_pfx_eq {ad ad' : List Nat} (h : ad <+: ad') (hl : ad'.length = ad.length) : ad' = ad := (h.eq_of_length hl.symm).symm
def fj_nc (r : fj_R) : Prop := ∀ v, r ≠ some (.inr (.inl v))
theorem fj_nc_none : fj_nc none := fun v h => by cases h
theorem fj_nc_re {v : Option Value} : fj_nc (fj_re v) := fun v h => by cases h
theorem fj_nc_go {c z pc : Nat} {ls st : List Value} {M : fj_HM} {P : fj_HP} : fj_nc (fj_go pc ls st M P c z) := fun v h => by cases h
theorem fj_nc_if {q : Prop} {a : fj_R} (h : fj_nc a) : fj_nc (fj_if q a none) := fun r hr => h r (fj_if_some hr).2
theorem fj_nc_p1 {st : List Value} {f : Int32 → List Value → fj_R} (h : ∀ x r, fj_nc (f x r)) : fj_nc (fj_p1 st f) := fun q hq => by
  obtain ⟨x, r, -, h2⟩ := fj_p1_some hq
  exact h x r q h2
theorem fj_nc_p2 {st : List Value} {f : Int32 → Int32 → List Value → fj_R} (h : ∀ x y r, fj_nc (f x y r)) : fj_nc (fj_p2 st f) := fun q hq => by
  obtain ⟨x, y, r, -, h2⟩ := fj_p2_some hq
  exact h x y r q h2
theorem fj_nc_q2 {st : List Value} {f : Int64 → Int64 → List Value → fj_R} (h : ∀ x y r, fj_nc (f x y r)) : fj_nc (fj_q2 st f) := fun q hq => by
  obtain ⟨x, y, r, -, h2⟩ := fj_q2_some hq
  exact h x y r q h2
theorem fj_nc_ild {ls : List Value} {a : Nat} {f : Int32 → fj_R} (h : ∀ x, fj_nc (f x)) : fj_nc (fj_ild ls a f) := fun q hq => by
  obtain ⟨x, -, h2⟩ := fj_ild_some hq
  exact h x q h2
theorem fj_nc_lld {ls : List Value} {a : Nat} {f : Int64 → fj_R} (h : ∀ x, fj_nc (f x)) : fj_nc (fj_lld ls a f) := fun q hq => by
  obtain ⟨x, -, -, h2⟩ := fj_lld_some hq
  exact h x q h2
theorem fj_nc_ald {ls : List Value} {a : Nat} {f : Value → fj_R} (h : ∀ x, fj_nc (f x)) : fj_nc (fj_ald ls a f) := fun q hq => by
  rcases fj_ald_some hq with ⟨x, -, h2⟩ | ⟨x, -, h2⟩
  · exact h _ q h2
  · exact h _ q h2
theorem fj_nc_sw {pc : Nat} {ins : Instr} {x : Int32} {f : Nat → fj_R} (h : ∀ t, fj_nc (f t)) : fj_nc (fj_sw ins pc x f) := fun q hq => by
  unfold fj_sw at hq
  repeat' split at hq
  all_goals first | exact h _ q hq | cases hq
set_option maxHeartbeats 4000000 in
set_option maxRecDepth 100000 in
theorem fj_no_call {y : Nat} {sc : fj_Sc} {ins : Instr} {x : Nat × Nat × Nat × Int × List Nat} {pc : Nat} {ls st : List Value} {M : fj_HM} {P : fj_HP} {c z : Nat} {q : fj_Cl} (h1 : ∀ i, ins ≠ .invokevirtual i) (h2 : ∀ i, ins ≠ .invokestatic i) (h3 : ∀ i, ins ≠ .invokespecial i) : fj_stp y sc (ins, x) pc ls st M P c z ≠ some (.inr (.inl q)) := by
  have key : fj_nc (fj_stp y sc (ins, x) pc ls st M P c z) := by
    cases ins
    all_goals first
      | exact absurd rfl (h1 _)
      | exact absurd rfl (h2 _)
      | exact absurd rfl (h3 _)
      | skip
    all_goals unfold fj_stp
    all_goals dsimp only
    repeat' (first
      | exact fj_nc_none
      | exact fj_nc_re
      | exact fj_nc_go
      | contradiction
      | refine fj_nc_if ?_
      | refine fj_nc_p1 fun x r => ?_
      | refine fj_nc_p2 fun x y r => ?_
      | refine fj_nc_q2 fun x y r => ?_
      | refine fj_nc_ild fun x => ?_
      | refine fj_nc_lld fun x => ?_
      | refine fj_nc_ald fun x => ?_
      | refine fj_nc_sw fun x => ?_
      | split)
  exact key q
theorem fj_sk_cat (b : Nat) (ad : List Nat) {r : List Value} (h : fj_sk r) : ((r.map (fj_xv b ad)).map fun v => v.category).sum ≤ 8 := by
  rcases h with h | ⟨h, h1⟩
  · have := fj_cats (r.map (fj_xv b ad))
    rw [List.length_map] at this
    omega
  · have key : ∀ l : List Value, (∀ v ∈ l, v.category = 1) → ((l.map (fj_xv b ad)).map fun v => v.category).sum = l.length := by
      intro l
      induction l with
      | nil => intro _; rfl
      | cons v l ih =>
        intro hl
        have e1 : (fj_xv b ad v).category = 1 := by
          have := hl v List.mem_cons_self
          cases v <;> first | rfl | exact this
        simp only [List.map_cons, List.sum_cons, List.length_cons]
        rw [ih (fun w hw => hl w (List.mem_cons_of_mem _ hw)), e1]
        omega
    rw [key r h1]
    exact h
/-- what a run of a call gives, whatever its kind -/
theorem fj_called {p : Program} {l : Launch} {e : Env} {R : Room} {s : State} {m : MethodId} {args : Array Value} {below : List Frame} {meth : Method} {cd : Code} {Q : State → Prop} {D : va_G} {cI cZ : ClassId} {A : Nat → Prop} {H0 : Heap} {b : Nat} {ad0 : List Nat} {c0 z0 nL pc : Nat} {ls rest : List Value} {M : fj_HM} {P : fj_HP} {c z : Nat} {v : Option Value} {M' : fj_HM} {P' : fj_HP} {c' z' : Nat}
    {ad : List Nat} {H : Heap} {locs : List Loc} {lsA : Array Slot} {cells slots : Nat} (hcc : cells + c0 = c) (hzz : slots + z0 = z) (had : ad0 <+: ad) (hnl : ls.length = nL) (hW : fj_Wd D cI cZ ad M P c A H0 H locs s) (hLo : fj_Lo b ad ls lsA) (hcm : c ≤ c' ∧ z ≤ z') (hok : c' = c ∨ fj_okl c ls rest) {a : Array Value} {st0 : List Value}
    (hr : va_Run p l e R s m args below meth cd H locs cells slots (c' - c) (z' - z) (F0 m pc lsA st0) (rest.map (fj_xv b ad)) (fj_Qm D cI cZ b ad (va_A (fj_wl cI cZ ad M P) H.size) v M' P' c' a) (va_A (fj_wl cI cZ ad M P) H.size))
    (kk : fj_G p l e R s m args below meth cd Q D cI cZ A H0 b ad0 c0 z0 nL (pc + 3) ls (v.toList ++ rest) M' P' c' z') :
    W p l e R s m args below meth cd H locs cells slots Q (F0 m pc lsA st0) := by
  obtain ⟨hadl, hP, hK, hD, hS, hA, hPc⟩ := hW
  have hF : ∀ q, va_A (fj_wl cI cZ ad M P) H.size q → A q := by
    intro q hq
    rcases hq with ⟨k, x, hk⟩ | hq
    · exact hD.2 k (q, x) hk
    · exact hA q (Nat.le_trans hS.1 hq)
  refine fj_call hr (B := fj_B1 D cI cZ b ad (va_A (fj_wl cI cZ ad M P) H.size) v M' P' c') (fun st v2 t h => ?_) hS (fun q _ h => hF q h) hF (fun v2 t H1 locs1 ht hB hS1 => ?_)
  · obtain ⟨⟨v3, h1, h2⟩, h3⟩ := h
    cases h1
    exact ⟨h2, h3⟩
  · obtain ⟨ad', had', hl', hPc', rfl, hP', hD'⟩ := hB
    rw [ht] at hP'
    have key : fj_Lo b ad' ls lsA ∧ rest.map (fj_xv b ad') = rest.map (fj_xv b ad) := by
      rcases hok with h | h
      · have e1 := fj_pfx_eq had' (by rw [hl', hadl, h])
        rw [e1]
        exact ⟨hLo, rfl⟩
      · obtain ⟨t2, rfl⟩ := had'
        exact ⟨fj_Lo_ext (by rw [hadl]; exact h.1) hLo, fj_map_ext (by rw [hadl]; exact h.2)⟩
    have K1 := kk ad' H1 locs1 lsA (cells + (c' - c)) (slots + (z' - z)) (by omega) (by omega) (had.trans had') hnl ⟨hl', hP', hK, hD'.weaken (fun k q _ h => hF q.1 h), hS1, hA, hPc'⟩ key.1
    rw [List.map_append, key.2] at K1
    have e2 : (v.map (fj_xv b ad')).toList = v.toList.map (fj_xv b ad') := by cases v <;> rfl
    rw [e2]
    exact K1
theorem fj_blind {D : va_G} {cI cZ : ClassId} {ad : List Nat} {M : fj_HM} {P : fj_HP} {sz : Nat} {av : List Value} : FrameBlind (va_Pc av (fj_B0 D cI cZ ad M P sz)) := fun a U g mk q => by
  obtain ⟨q0, q1, qP, qK, qD, qN⟩ := q
  exact ⟨q0, q1, qP, va_K.moved (u := U) (U := U.calling g mk a) (Vm.Alike.refl U.vm) qK, qD, fj_N_same (s := U) rfl qN⟩
theorem fj_enters {D : va_G} {cI cZ : ClassId} {ad : List Nat} {M : fj_HM} {P : fj_HP} {c : Nat} {A : Nat → Prop} {H0 H : Heap} {locs : List Loc} {s : State} (hW : fj_Wd D cI cZ ad M P c A H0 H locs s) (hN : ∀ w ∈ fj_N, va_Nw w s) (av : List Value) : ∀ U : State, U.heap = H → s.WarmedH U.vm → va_Pc av (fj_B0 D cI cZ ad M P H.size) av.toArray U := by
  intro U hU hw
  obtain ⟨hadl, hP, hK, hD, hS, hA, hPc⟩ := hW
  exact ⟨rfl, by rw [hU], by rw [hU]; exact hP, va_K.moved hw.alike hK, hD.weaken (fun _ _ _ _ => trivial), fj_N_warm hw hN⟩
set_option maxHeartbeats 4000000 in
set_option maxRecDepth 100000 in
theorem fj_snd : ∀ n, fj_Snd n := by
  intro n
  induction n with
  | zero => intro y sc pc ls st M P c z v M' P' c' z' h; cases h
  | succ n ih =>
    intro y sc pc ls st M P c z v M' P' c' z' h p l e R s m args below meth cd Q D cI cZ A H0 b ad0 c0 z0 hcx hX hcR hzR hfin
    unfold fj_run at h
    split at h
    · cases h
    · rename_i ai hai
      split at h
      · cases h
      · rename_i q hq
        have h1 := fj_stp_mo y sc ai pc ls st M P c z q hq
        have h2 := fj_run_mo n h
        simp only at h2
        exact fj_step hcx hX rfl hai hq (by omega) (by omega) (by omega) (by omega) (ih y sc q.1 q.2.1 q.2.2.1 q.2.2.2.1 q.2.2.2.2.1 q.2.2.2.2.2.1 q.2.2.2.2.2.2 v M' P' c' z' h p l e R s m args below meth cd Q D cI cZ A H0 b ad0 c0 z0 hcx hX hcR hzR hfin)
      · rename_i q hq
        split at h
        · cases h
        · rename_i r hr
          obtain ⟨v1, M1, P1, c1, z1⟩ := r
          obtain ⟨hokl, h⟩ := fj_if_some h
          simp only at hokl h
          have m1 := fj_run_mo n hr
          have m2 := fj_run_mo n h
          simp only at m1 m2
          have kk := ih y sc (pc + 3) ls (v1.toList ++ q.2.2) M1 P1 c1 z1 v M' P' c' z' h p l e R s m args below meth cd Q D cI cZ A H0 b ad0 c0 z0 hcx hX hcR hzR hfin
          intro ad H locs lsA cells slots hcc hzz had hnl hW hLo
          have hW0 := hW
          obtain ⟨hadl, hP, hK, hD, hS, hA, hPc⟩ := hW
          have hsz : lsA.size = fj_ml y := by obtain ⟨l, h1, -⟩ := hLo; rw [h1.1, hnl]
          have cat4 : ∀ r : List Value, r.length ≤ 4 → ((r.map (fj_xv b ad)).map fun v => v.category).sum ≤ 8 := fun r hr => by
            have := fj_cats (r.map (fj_xv b ad))
            rw [List.length_map] at this
            omega
          obtain ⟨hx, hb, hml, hown, hts, hini, hfr, hlo, hN⟩ := hcx
          have ok := fj_okI_of hai
          obtain ⟨ins, len, a, bb, k, ixs⟩ := ai
          have callee : fj_okC y a bb = true → a < 165 ∧ ((parseMethodDescriptor (fj_yn a).desc).map (fun d => d.parameters.length) = some bb) ∧ (fj_fr a + 1 ≤ R.frames ∧ 8 + (fj_ml a + 11) + fj_lo a ≤ R.locals) ∧ (fj_yn a).cls ≠ "java/lang/invoke/MethodHandle" ∧ (fj_yn a).cls ≠ "java/lang/invoke/VarHandle" := by
            intro h
            simp only [fj_okC, Bool.and_eq_true, decide_eq_true_eq] at h
            obtain ⟨h1, h2, h3, h4⟩ := h
            have hY := fj_okY_of h1
            simp only [fj_okY, Bool.and_eq_true, decide_eq_true_eq] at hY
            exact ⟨h1, h2, ⟨by omega, by omega⟩, hY.2.2.2.1, hY.2.2.2.2⟩
          have goodY : a < 165 → ∀ w ∈ (Cond.code (fj_yn a) (fj_bc a) (fj_ml a) (fj_rt a) :: fj_T), w ∈ fj_T ∧ ((w.onTables && w.keeps) = true ∨ ∃ ty, w = .arrayClass ty) := fun ha w hw => by
            rcases List.mem_cons.mp hw with rfl | hw
            · exact fj_good (fj_code_in ha)
            · exact fj_good hw
          by_cases e1 : ∃ i, ins = .invokevirtual i
          · obtain ⟨i, rfl⟩ := e1
            simp only [fj_okI, Bool.and_eq_true, decide_eq_true_eq, beq_iff_eq] at ok
            obtain ⟨hdg, rfl, hC, w0, w1, w2, w3, hci⟩ := ok
            dsimp only [fj_stp] at hq
            obtain ⟨⟨hb1, hb2, ⟨v0, hv0, hrc⟩, hnd⟩, hq⟩ := fj_if_some hq
            cases hq
            obtain ⟨ha, hpar, hroom, hne1, hne2⟩ := callee hC
            have hM := fj_met_of ih hr ha hnd l D cI cZ b ad H.size hadl hPc
            obtain ⟨t1, t2⟩ := fj_take_at hv0
            cases v0 with
            | ref o =>
              have hob : fj_ob c o (fj_ci a) := hrc
              rw [t1] at hM
              cases hcl : fj_cl[fj_ci a]? with
              | none => rw [hcl] at hci; exact absurd hci (by simp)
              | some qc =>
                rw [hcl] at hci
                have hcn : qc.1 = (fj_yn a).cls := Option.some.inj hci
                have run := va_runV (C := (fj_yn a).cls) (b := ad.getD o 0) (As := ((st.take bb).reverse).map (fj_xv b ad)) (rest := (st.drop (bb + 1)).map (fj_xv b ad)) (g := F0 m pc lsA (st.map (fj_xv b ad))) (locs := locs) (cells := cells) (slots := slots) (p := p) (e := e) (R := R) (s := s) (m := m) (args := args) (below := below) (meth := meth) (c := cd) (H := H) ⟨hx, hb, hml, hown, hts⟩ hM
                  (cwV bb hts (fun w hw => by
                    unfold wsV at hw
                    rcases List.mem_append.mp hw with hw | hw
                    · simp only [List.mem_cons, List.not_mem_nil, or_false] at hw
                      rcases hw with rfl | rfl | rfl | rfl
                      · exact fj_good (fj_wd_ok w0)
                      · exact fj_good (fj_wd_ok w1)
                      · exact fj_good (fj_wd_ok w2)
                      · exact fj_good (fj_wd_ok w3)
                    · exact goodY ha w hw) rfl rfl rfl ⟨rfl, hne1, hne2, hpar⟩ hroom)
                  ⟨fj_blind, by rw [← hcn]; exact va_recv hK hP hcl (q0 := o) (by rw [fj_wl_get (by rw [hadl]; exact hob.1), fj_xc_obj hob.2]), fj_enters hW0 hN _⟩
                  rfl (by rw [List.length_map, List.length_reverse, List.length_take]; omega) hsz (by
                    show st.map (fj_xv b ad) = _
                    conv => lhs; rw [t2]
                    simp [fj_xv]) (by
                    have := fj_sk_cat b ad hb2
                    show 2 * 0 + _ ≤ 8
                    omega) hdg ⟨by show cells + (c1 - c) ≤ R.cells; omega, by show slots + (z1 - z) ≤ R.slots; omega⟩
                exact fj_called hcc hzz had hnl hW0 hLo m1 hokl run kk
            | _ => exact absurd hrc (fun h => h)
          · by_cases e2 : ∃ i, ins = .invokestatic i
            · obtain ⟨i, rfl⟩ := e2
              simp only [fj_okI, Bool.and_eq_true, decide_eq_true_eq, beq_iff_eq] at ok
              obtain ⟨hdg, rfl, hok⟩ := ok
              dsimp only [fj_stp] at hq
              by_cases h997 : a = 997
              · rw [if_pos h997] at hq
                obtain ⟨x, r, -, hq⟩ := fj_p1_some hq
                try dsimp only at hq
                split at hq <;> cases hq
              · rw [if_neg h997] at hq hok
                by_cases h996 : a = 996
                · rw [if_pos h996] at hq
                  obtain ⟨x, y2, r, -, hq⟩ := fj_p2_some hq
                  try dsimp only at hq
                  split at hq <;> cases hq
                · rw [if_neg h996] at hq hok
                  by_cases h998 : a = 998
                  · rw [if_pos h998] at hq
                    split at hq
                    · obtain ⟨-, hq⟩ := fj_if_some hq
                      cases hq
                    · cases hq
                  · rw [if_neg h998] at hq hok
                    simp only [Bool.and_eq_true] at hok
                    obtain ⟨hC, w0, w1, w2⟩ := hok
                    obtain ⟨⟨hb1, hb2, hnd⟩, hq⟩ := fj_if_some hq
                    cases hq
                    obtain ⟨ha, hpar, hroom, hne1, hne2⟩ := callee hC
                    have hM := fj_met_of ih hr ha hnd l D cI cZ b ad H.size hadl hPc
                    have run := va_runS (As := ((st.take bb).reverse).map (fj_xv b ad)) (rest := (st.drop bb).map (fj_xv b ad)) (g := F0 m pc lsA (st.map (fj_xv b ad))) (locs := locs) (cells := cells) (slots := slots) (p := p) (e := e) (R := R) (s := s) (m := m) (args := args) (below := below) (meth := meth) (c := cd) (H := H) ⟨hx, hb, hml, hown, hts⟩ hM
                      (va_cwS bb hts (fun w hw => by
                        unfold va_wsS at hw
                        rcases List.mem_append.mp hw with hw | hw
                        · simp only [List.mem_cons, List.not_mem_nil, or_false] at hw
                          rcases hw with rfl | rfl | rfl
                          · exact fj_good (fj_wd_ok w0)
                          · exact fj_good (fj_wd_ok w1)
                          · exact fj_good (fj_wd_ok w2)
                        · exact goodY ha w hw) rfl rfl rfl ⟨hne1, hne2, hpar⟩ hroom)
                      ⟨fj_blind, fj_enters hW0 hN _⟩
                      rfl (by rw [List.length_map, List.length_reverse, List.length_take]; omega) hsz (by
                        show st.map (fj_xv b ad) = _
                        conv => lhs; rw [← List.take_append_drop bb st]
                        simp) (by
                        have := fj_sk_cat b ad hb2
                        show 2 * 0 + _ ≤ 8
                        omega) hdg ⟨by show cells + (c1 - c) ≤ R.cells; omega, by show slots + (z1 - z) ≤ R.slots; omega⟩
                    exact fj_called hcc hzz had hnl hW0 hLo m1 hokl run kk
            · by_cases e3 : ∃ i, ins = .invokespecial i
              · obtain ⟨i, rfl⟩ := e3
                simp only [fj_okI, Bool.and_eq_true, decide_eq_true_eq, beq_iff_eq] at ok
                obtain ⟨hdg, rfl, hok⟩ := ok
                dsimp only [fj_stp] at hq
                by_cases h999 : a = 999
                · rw [if_pos h999] at hq
                  split at hq
                  · split at hq <;> cases hq
                  · cases hq
                · rw [if_neg h999] at hq hok
                  simp only [Bool.and_eq_true, decide_eq_true_eq] at hok
                  obtain ⟨hC, w0, w1, w2, hinit, hrt⟩ := hok
                  obtain ⟨⟨hb1, hb2, ⟨o, hv0⟩, hnd⟩, hq⟩ := fj_if_some hq
                  cases hq
                  obtain ⟨ha, hpar, hroom, hne1, hne2⟩ := callee hC
                  have hM := fj_met_of ih hr ha hnd l D cI cZ b ad H.size hadl hPc
                  obtain ⟨t1, t2⟩ := fj_take_at hv0
                  rw [t1] at hM
                  unfold fj_Met at hM
                  rw [hrt] at hM
                  have goodY2 : ∀ w ∈ (Cond.code (fj_yn a) (fj_bc a) (fj_ml a) none :: fj_T), w ∈ fj_T ∧ ((w.onTables && w.keeps) = true ∨ ∃ ty, w = .arrayClass ty) := by rw [← hrt]; exact goodY ha
                  have run : va_Run p l e R s m args below meth cd H locs cells slots (c1 - c) (z1 - z) (F0 m pc lsA (st.map (fj_xv b ad))) ((st.drop (bb + 1)).map (fj_xv b ad)) (fj_Qm D cI cZ b ad (va_A (fj_wl cI cZ ad M P) H.size) v1 M1 P1 c1 (Value.ref (ad.getD o 0) :: ((st.take bb).reverse).map (fj_xv b ad)).toArray) (va_A (fj_wl cI cZ ad M P) H.size) := by
                    by_cases hk : k = 1
                    · rw [if_pos hk] at w0
                      have hl9 := hN _ (List.mem_of_getElem? (of_decide_eq_true w0))
                      exact va_runIN (host := "FortyJars") (b := ad.getD o 0) (As := ((st.take bb).reverse).map (fj_xv b ad)) (rest := (st.drop (bb + 1)).map (fj_xv b ad)) (g := F0 m pc lsA (st.map (fj_xv b ad))) (locs := locs) (cells := cells) (slots := slots) (p := p) (e := e) (R := R) (s := s) (m := m) (args := args) (below := below) (meth := meth) (c := cd) (H := H) ⟨hx, hb, hml, hown, hts⟩ hM
                        ⟨va_cnB bb hts goodY2 rfl rfl rfl hl9 (hts _ (fj_wd_ok w2)) ⟨hne1, hne2, hpar⟩ hroom, hinit, hts _ (fj_wd_ok w1)⟩
                        ⟨fj_blind, fj_enters hW0 hN _⟩
                        rfl (by rw [List.length_map, List.length_reverse, List.length_take]; omega) hsz (by
                          show st.map (fj_xv b ad) = _
                          conv => lhs; rw [t2]
                          simp [fj_xv]) (by
                          have := fj_sk_cat b ad hb2
                          show 2 * 0 + _ ≤ 8
                          omega) hdg ⟨by show cells + (c1 - c) ≤ R.cells; omega, by show slots + (z1 - z) ≤ R.slots; omega⟩
                    · rw [if_neg hk] at w0
                      exact va_runI (b := ad.getD o 0) (As := ((st.take bb).reverse).map (fj_xv b ad)) (rest := (st.drop (bb + 1)).map (fj_xv b ad)) (g := F0 m pc lsA (st.map (fj_xv b ad))) (locs := locs) (cells := cells) (slots := slots) (p := p) (e := e) (R := R) (s := s) (m := m) (args := args) (below := below) (meth := meth) (c := cd) (H := H) ⟨hx, hb, hml, hown, hts⟩ hM
                        (cwI bb hts goodY2 rfl rfl rfl (hts _ (fj_wd_ok w2)) (hts _ (fj_wd_ok w0)) (hts _ (fj_wd_ok w1)) hinit ⟨hne1, hne2, hpar⟩ hroom)
                        ⟨fj_blind, fj_enters hW0 hN _⟩
                        rfl (by rw [List.length_map, List.length_reverse, List.length_take]; omega) hsz (by
                          show st.map (fj_xv b ad) = _
                          conv => lhs; rw [t2]
                          simp [fj_xv]) (by
                          have := fj_sk_cat b ad hb2
                          show 2 * 0 + _ ≤ 8
                          omega) hdg ⟨by show cells + (c1 - c) ≤ R.cells; omega, by show slots + (z1 - z) ≤ R.slots; omega⟩
                  exact fj_called hcc hzz had hnl hW0 hLo m1 hokl run kk
              · exact absurd hq (fj_no_call (fun i h => e1 ⟨i, h⟩) (fun i h => e2 ⟨i, h⟩) (fun i h => e3 ⟨i, h⟩))
      · rename_i v0 hv0
        cases h
        exact hfin pc ls st ai hai hv0
