/-! ===== the abstract machine: values as the kit's, a reference is a place in the order of allocation ===== -/
abbrev fj_HM : Type := Nat → Nat → Int32
abbrev fj_HP : Type := Nat → Nat → Nat
abbrev fj_Sc : Type := Option (Nat × (Nat → Int32))
/-- next: pc, locals, stack, numbers, references, cells, slots -/
abbrev fj_Nx : Type := Nat × List Value × List Value × fj_HM × fj_HP × Nat × Nat
/-- a call: whom, its locals at entry, what is left of the stack -/
abbrev fj_Cl : Type := Nat × List Value × List Value
/-- the second half of a long among the locals -/
abbrev fj_mk : Value := .double 0
def fj_rv : Nat → Value
  | 0 => .null
  | k + 1 => .ref k
def fj_up (M : fj_HM) (o k : Nat) (v : Int32) : fj_HM := fun o' k' => if o' = o ∧ k' = k then v else M o' k'
def fj_uP (P : fj_HP) (o k v : Nat) : fj_HP := fun o' k' => if o' = o ∧ k' = k then v else P o' k'
def fj_ze (M : fj_HM) (o : Nat) : fj_HM := fun o' k' => if o' = o then 0 else M o' k'
def fj_zP (P : fj_HP) (o : Nat) : fj_HP := fun o' k' => if o' = o then 0 else P o' k'
def fj_cy (M : fj_HM) (src dst sp dp n : Nat) : fj_HM := fun o k => if o = dst ∧ dp ≤ k ∧ k < dp + n then M src (sp + (k - dp)) else M o k
/-- which cell stands at a place: an object of a class (0, class), an array of ints (1, length), of booleans (2, length) -/
def fj_shl : List (Nat × Nat) := [(0, 6), (0, 3), (1, 240), (1, 4), (1, 4), (0, 1), (1, 8), (1, 8), (2, 8), (0, 4), (0, 0), (1, 6), (0, 2), (1, 2688), (1, 64), (1, 6), (1, 60), (0, 5), (1, 24), (1, 6), (1, 6), (1, 6), (1, 2), (1, 24), (1, 24), (0, 5), (1, 24), (1, 6), (1, 6), (1, 6), (1, 2), (1, 24), (1, 24), (0, 7), (1, 24), (1, 6), (1, 6), (1, 6), (1, 2), (1, 24), (1, 6), (1, 6), (1, 6), (1, 2), (1, 6), (1, 4032), (1, 8), (1, 8), (2, 8), (1, 4), (1, 4), (1, 240), (1, 60)]
def fj_sh (o : Nat) : Nat × Nat := fj_shl.getD o (3, 0)
/-- an object of a class stands there -/
def fj_ob (c o ci : Nat) : Prop := o < c ∧ fj_sh o = (0, ci)
/-- an array of a kind stands there, and the index is in it -/
def fj_ar (c o t : Nat) (j : Int32) : Prop := o < c ∧ (fj_sh o).1 = t ∧ vp_in j (fj_sh o).2
def fj_zo (v : Int32) : Prop := v = 0 ∨ v = 1

def fj_go (pc : Nat) (ls st : List Value) (M : fj_HM) (P : fj_HP) (c z : Nat) : Option (fj_Nx ⊕ fj_Cl ⊕ Option Value) := some (.inl (pc, ls, st, M, P, c, z))
def fj_ca (y : Nat) (ls st : List Value) : Option (fj_Nx ⊕ fj_Cl ⊕ Option Value) := some (.inr (.inl (y, ls, st)))
def fj_re (v : Option Value) : Option (fj_Nx ⊕ fj_Cl ⊕ Option Value) := some (.inr (.inr v))
/-- the arguments as locals -/
def fj_pa : List Value → List Value
  | [] => []
  | .long v :: r => .long v :: fj_mk :: fj_pa r
  | v :: r => v :: fj_pa r
/-- the locals at entry -/
def fj_en (y : Nat) (as : List Value) : List Value := fj_pa as ++ List.replicate (fj_ml y - (fj_pa as).length) .null
/-- what may be handed on: no second half, and there is room -/
def fj_v1 (v : Value) : Prop := match v with | .double _ => False | _ => True
/-- what may stay behind on the stack at a call -/
def fj_sk (r : List Value) : Prop := r.length ≤ 4 ∨ (r.length ≤ 8 ∧ ∀ v ∈ r, v.category = 1)
def fj_nd (y : Nat) (as : List Value) : Prop := (∀ v ∈ as, fj_v1 v) ∧ (fj_pa as).length ≤ fj_ml y
abbrev fj_R : Type := Option (fj_Nx ⊕ fj_Cl ⊕ Option Value)
def fj_p1 (st : List Value) (f : Int32 → List Value → fj_R) : fj_R := match st with | .int x :: r => f x r | _ => none
def fj_p2 (st : List Value) (f : Int32 → Int32 → List Value → fj_R) : fj_R := match st with | .int y :: .int x :: r => f x y r | _ => none
def fj_q2 (st : List Value) (f : Int64 → Int64 → List Value → fj_R) : fj_R := match st with | .long y :: .long x :: r => f x y r | _ => none
def fj_ild (ls : List Value) (a : Nat) (f : Int32 → fj_R) : fj_R := match ls[a]? with | some (.int x) => f x | _ => none
def fj_ald (ls : List Value) (a : Nat) (f : Value → fj_R) : fj_R := match ls[a]? with | some (.ref x) => f (.ref x) | some (.float x) => f (.float x) | _ => none
def fj_lld (ls : List Value) (a : Nat) (f : Int64 → fj_R) : fj_R := match ls[a]? with | some (.long x) => (if ls[a + 1]? = some fj_mk then f x else none) | _ => none
/-- where a switch goes -/
def fj_sw (ins : Instr) (pc : Nat) (x : Int32) (f : Nat → fj_R) : fj_R := match ins with
  | .tableswitch d lo hi offs => (if x.toInt < lo ∨ hi < x.toInt then (if 0 ≤ (pc : Int) + d then f ((pc : Int) + d).toNat else none) else match offs[(x.toInt - lo).toNat]? with | some o => (if 0 ≤ (pc : Int) + o then f ((pc : Int) + o).toNat else none) | none => none)
  | .lookupswitch d ps => (if 0 ≤ (pc : Int) + Op.lookupswitch.offset ps.toList d x.toInt then f ((pc : Int) + Op.lookupswitch.offset ps.toList d x.toInt).toNat else none)
  | _ => none
/-- the receiver of a virtual call -/
def fj_rc (c : Nat) (v : Value) (ci : Nat) : Prop := match v with | .ref o => fj_ob c o ci | _ => False
/-- which class a method's receiver is -/
def fj_ci (y : Nat) : Nat := fj_cl.findIdx (fun q => q.1 == (fj_yn y).cls)

/-- a choice by any proposition -/
noncomputable def fj_if {α : Type} (q : Prop) (a b : α) : α := @ite α q (Classical.propDecidable q) a b
theorem fj_if_t {α : Type} {q : Prop} {a b : α} (h : q) : fj_if q a b = a := by unfold fj_if; exact if_pos h
theorem fj_if_f {α : Type} {q : Prop} {a b : α} (h : ¬ q) : fj_if q a b = b := by unfold fj_if; exact if_neg h
theorem fj_if_some {α : Type} {q : Prop} {a : Option α} {r : α} (h : fj_if q a none = some r) : q ∧ a = some r := by
  by_cases hq : q
  · rw [fj_if_t hq] at h; exact ⟨hq, h⟩
  · rw [fj_if_f hq] at h; cases h
/-- no reference beyond the cells that there are -/
def fj_okv (c : Nat) (v : Value) : Prop := match v with | .ref k => k < c | _ => True
def fj_okl (c : Nat) (ls st : List Value) : Prop := (∀ v ∈ ls, fj_okv c v) ∧ ∀ v ∈ st, fj_okv c v
noncomputable def fj_stp (y : Nat) (sc : fj_Sc) (ai : fj_AI) (pc : Nat) (ls st : List Value) (M : fj_HM) (P : fj_HP) (c z : Nat) : fj_R :=
  match ai.1 with
  | .iconst _ => fj_go (pc + 1) ls (.int (Int32.ofInt ai.2.2.2.2.1) :: st) M P c z
  | .bipush _ => fj_go (pc + 2) ls (.int (Int32.ofInt ai.2.2.2.2.1) :: st) M P c z
  | .sipush _ => fj_go (pc + 3) ls (.int (Int32.ofInt ai.2.2.2.2.1) :: st) M P c z
  | .ldc _ => fj_go (pc + 2) ls (.int (Int32.ofInt ai.2.2.2.2.1) :: st) M P c z
  | .ldc_w _ => fj_go (pc + 3) ls (.int (Int32.ofInt ai.2.2.2.2.1) :: st) M P c z
  | .ldc2_w _ => fj_go (pc + 3) ls (.long (Int64.ofInt ai.2.2.2.2.1) :: st) M P c z
  | .lconst _ => fj_go (pc + 1) ls (.long (Int64.ofInt ai.2.2.2.2.1) :: st) M P c z
  | .iload_n _ => fj_ild ls ai.2.2.1 fun x => fj_go (pc + 1) ls (.int x :: st) M P c z
  | .iload _ => fj_ild ls ai.2.2.1 fun x => fj_go (pc + 2) ls (.int x :: st) M P c z
  | .aload_n _ => fj_ald ls ai.2.2.1 fun x => fj_go (pc + 1) ls (x :: st) M P c z
  | .aload _ => fj_ald ls ai.2.2.1 fun x => fj_go (pc + 2) ls (x :: st) M P c z
  | .lload_n _ => fj_lld ls ai.2.2.1 fun x => fj_go (pc + 1) ls (.long x :: st) M P c z
  | .lload _ => fj_lld ls ai.2.2.1 fun x => fj_go (pc + 2) ls (.long x :: st) M P c z
  | .istore_n _ => match st with | .int x :: r => (if ai.2.2.1 < ls.length then fj_go (pc + 1) (ls.set ai.2.2.1 (.int x)) r M P c z else none) | _ => none
  | .istore _ => match st with | .int x :: r => (if ai.2.2.1 < ls.length then fj_go (pc + 2) (ls.set ai.2.2.1 (.int x)) r M P c z else none) | _ => none
  | .astore_n _ => match st with | .ref x :: r => (if ai.2.2.1 < ls.length then fj_go (pc + 1) (ls.set ai.2.2.1 (.ref x)) r M P c z else none) | _ => none
  | .astore _ => match st with | .ref x :: r => (if ai.2.2.1 < ls.length then fj_go (pc + 2) (ls.set ai.2.2.1 (.ref x)) r M P c z else none) | _ => none
  | .lstore_n _ => match st with | .long x :: r => (if ai.2.2.1 + 1 < ls.length then fj_go (pc + 1) ((ls.set ai.2.2.1 (.long x)).set (ai.2.2.1 + 1) fj_mk) r M P c z else none) | _ => none
  | .lstore _ => match st with | .long x :: r => (if ai.2.2.1 + 1 < ls.length then fj_go (pc + 2) ((ls.set ai.2.2.1 (.long x)).set (ai.2.2.1 + 1) fj_mk) r M P c z else none) | _ => none
  | .iinc _ _ => fj_ild ls ai.2.2.1 fun x => fj_go (pc + 3) (ls.set ai.2.2.1 (.int (x + Int32.ofInt ai.2.2.2.2.1))) st M P c z
  | .iadd => fj_p2 st fun x y r => fj_go (pc + 1) ls (.int (x + y) :: r) M P c z
  | .isub => fj_p2 st fun x y r => fj_go (pc + 1) ls (.int (x - y) :: r) M P c z
  | .imul => fj_p2 st fun x y r => fj_go (pc + 1) ls (.int (x * y) :: r) M P c z
  | .iand => fj_p2 st fun x y r => fj_go (pc + 1) ls (.int (x &&& y) :: r) M P c z
  | .ior => fj_p2 st fun x y r => fj_go (pc + 1) ls (.int (x ||| y) :: r) M P c z
  | .ixor => fj_p2 st fun x y r => fj_go (pc + 1) ls (.int (x ^^^ y) :: r) M P c z
  | .ishl => fj_p2 st fun x y r => fj_go (pc + 1) ls (.int (x <<< (y &&& 31)) :: r) M P c z
  | .ishr => fj_p2 st fun x y r => fj_go (pc + 1) ls (.int (x >>> (y &&& 31)) :: r) M P c z
  | .iushr => fj_p2 st fun x y r => fj_go (pc + 1) ls (.int ((x.toUInt32 >>> (y.toUInt32 &&& Int32.toUInt32 31)).toInt32) :: r) M P c z
  | .idiv => fj_p2 st fun x y r => if y = 0 then none else fj_go (pc + 1) ls (.int (x / y) :: r) M P c z
  | .irem => fj_p2 st fun x y r => if y = 0 then none else fj_go (pc + 1) ls (.int (x - x / y * y) :: r) M P c z
  | .ineg => fj_p1 st fun x r => fj_go (pc + 1) ls (.int (-x) :: r) M P c z
  | .i2l => fj_p1 st fun x r => fj_go (pc + 1) ls (.long x.toInt64 :: r) M P c z
  | .i2b => fj_p1 st fun x r => fj_go (pc + 1) ls (.int x.toInt8.toInt32 :: r) M P c z
  | .i2s => fj_p1 st fun x r => fj_go (pc + 1) ls (.int x.toInt16.toInt32 :: r) M P c z
  | .ladd => fj_q2 st fun x y r => fj_go (pc + 1) ls (.long (x + y) :: r) M P c z
  | .lsub => fj_q2 st fun x y r => fj_go (pc + 1) ls (.long (x - y) :: r) M P c z
  | .ldiv => fj_q2 st fun x y r => if y = 0 then none else fj_go (pc + 1) ls (.long (x / y) :: r) M P c z
  | .lrem => fj_q2 st fun x y r => if y = 0 then none else fj_go (pc + 1) ls (.long (x - x / y * y) :: r) M P c z
  | .lcmp => fj_q2 st fun x y r => fj_go (pc + 1) ls (.int (lg_cmp x y) :: r) M P c z
  | .lshl => match st with | .int y :: .long x :: r => fj_go (pc + 1) ls (.long (x <<< (y.toInt64 &&& 63)) :: r) M P c z | _ => none
  | .dup => match st with | .int x :: r => fj_go (pc + 1) ls (.int x :: .int x :: r) M P c z | .ref x :: r => fj_go (pc + 1) ls (.ref x :: .ref x :: r) M P c z | _ => none
  | .ifCond .eq _ => fj_p1 st fun x r => if x = 0 then fj_go ai.2.2.1 ls r M P c z else fj_go (pc + 3) ls r M P c z
  | .if_icmp .eq _ => fj_p2 st fun x y r => if x = y then fj_go ai.2.2.1 ls r M P c z else fj_go (pc + 3) ls r M P c z
  | .ifCond .ne _ => fj_p1 st fun x r => if x ≠ 0 then fj_go ai.2.2.1 ls r M P c z else fj_go (pc + 3) ls r M P c z
  | .if_icmp .ne _ => fj_p2 st fun x y r => if x ≠ y then fj_go ai.2.2.1 ls r M P c z else fj_go (pc + 3) ls r M P c z
  | .ifCond .lt _ => fj_p1 st fun x r => if x < 0 then fj_go ai.2.2.1 ls r M P c z else fj_go (pc + 3) ls r M P c z
  | .if_icmp .lt _ => fj_p2 st fun x y r => if x < y then fj_go ai.2.2.1 ls r M P c z else fj_go (pc + 3) ls r M P c z
  | .ifCond .ge _ => fj_p1 st fun x r => if 0 ≤ x then fj_go ai.2.2.1 ls r M P c z else fj_go (pc + 3) ls r M P c z
  | .if_icmp .ge _ => fj_p2 st fun x y r => if y ≤ x then fj_go ai.2.2.1 ls r M P c z else fj_go (pc + 3) ls r M P c z
  | .ifCond .gt _ => fj_p1 st fun x r => if 0 < x then fj_go ai.2.2.1 ls r M P c z else fj_go (pc + 3) ls r M P c z
  | .if_icmp .gt _ => fj_p2 st fun x y r => if y < x then fj_go ai.2.2.1 ls r M P c z else fj_go (pc + 3) ls r M P c z
  | .ifCond .le _ => fj_p1 st fun x r => if x ≤ 0 then fj_go ai.2.2.1 ls r M P c z else fj_go (pc + 3) ls r M P c z
  | .if_icmp .le _ => fj_p2 st fun x y r => if x ≤ y then fj_go ai.2.2.1 ls r M P c z else fj_go (pc + 3) ls r M P c z
  | .goto _ => fj_go ai.2.2.1 ls st M P c z
  | .tableswitch _ _ _ _ => fj_p1 st fun x r => fj_sw ai.1 pc x fun t => fj_go t ls r M P c z
  | .lookupswitch _ _ => fj_p1 st fun x r => fj_sw ai.1 pc x fun t => fj_go t ls r M P c z
  | .getfield _ => match st with | .ref o :: r => (fj_if (fj_ob c o ai.2.2.1) (fj_go (pc + 3) ls ((if fj_isR ai.2.2.1 ai.2.2.2.1 then fj_rv (P o ai.2.2.2.1) else .int (M o ai.2.2.2.1)) :: r) M P c z) none) | _ => none
  | .putfield _ => match st with | .int v :: .ref o :: r => (fj_if (fj_ob c o ai.2.2.1 ∧ fj_isR ai.2.2.1 ai.2.2.2.1 = false) (fj_go (pc + 3) ls r (fj_up M o ai.2.2.2.1 v) P c z) none) | .ref w :: .ref o :: r => (fj_if (fj_ob c o ai.2.2.1 ∧ fj_isR ai.2.2.1 ai.2.2.2.1 = true ∧ w < c) (fj_go (pc + 3) ls r M (fj_uP P o ai.2.2.2.1 (w + 1)) c z) none) | _ => none
  | .iaload => match st with | .int j :: .ref o :: r => (fj_if (fj_ar c o 1 j) (fj_go (pc + 1) ls (.int (M o j.toNatClampNeg) :: r) M P c z) none) | .int j :: .float _ :: r => (match sc with | some q => (fj_if (vp_in j q.1) (fj_go (pc + 1) ls (.int (q.2 j.toNatClampNeg) :: r) M P c z) none) | none => none) | _ => none
  | .baload => match st with | .int j :: .ref o :: r => (fj_if (fj_ar c o 2 j) (fj_go (pc + 1) ls (.int (M o j.toNatClampNeg) :: r) M P c z) none) | _ => none
  | .iastore => match st with | .int v :: .int j :: .ref o :: r => (fj_if (fj_ar c o 1 j) (fj_go (pc + 1) ls r (fj_up M o j.toNatClampNeg v) P c z) none) | _ => none
  | .bastore => match st with | .int v :: .int j :: .ref o :: r => (fj_if (fj_ar c o 2 j ∧ fj_zo v) (fj_go (pc + 1) ls r (fj_up M o j.toNatClampNeg v) P c z) none) | _ => none
  | .arraylength => match st with | .ref o :: r => (fj_if (o < c ∧ (fj_sh o).1 = 1) (fj_go (pc + 1) ls (.int (Int32.ofNat (fj_sh o).2) :: r) M P c z) none) | .float _ :: r => (match sc with | some q => fj_go (pc + 1) ls (.int (Int32.ofNat q.1) :: r) M P c z | none => none) | _ => none
  | .new _ => fj_if (fj_sh c = (0, ai.2.2.1) ∧ fj_okl c ls st) (fj_go (pc + 3) ls (.ref c :: st) (fj_ze M c) (fj_zP P c) (c + 1) (z + fj_nF ai.2.2.1)) none
  | .newarray _ => fj_p1 st fun n r => fj_if (fj_sh c = (ai.2.2.1, n.toNatClampNeg) ∧ 0 ≤ n ∧ fj_okl c ls r) (fj_go (pc + 2) ls (.ref c :: r) (fj_ze M c) P (c + 1) (z + n.toNatClampNeg)) none
  | .invokevirtual _ => fj_if (ai.2.2.2.1 < st.length ∧ fj_sk (st.drop (ai.2.2.2.1 + 1)) ∧ (∃ v, st[ai.2.2.2.1]? = some v ∧ fj_rc c v (fj_ci ai.2.2.1)) ∧ fj_nd ai.2.2.1 (st.take (ai.2.2.2.1 + 1)).reverse) (fj_ca ai.2.2.1 (fj_en ai.2.2.1 (st.take (ai.2.2.2.1 + 1)).reverse) (st.drop (ai.2.2.2.1 + 1))) none
  | .invokestatic _ => if ai.2.2.1 = 997 then fj_p1 st (fun x r => if r.length ≤ 4 then fj_go (pc + 3) ls (.int (if 0 ≤ x then x else 0 - x) :: r) M P c z else none) else if ai.2.2.1 = 996 then fj_p2 st (fun x y r => if r.length ≤ 4 then fj_go (pc + 3) ls (.int (if y < x then y else x) :: r) M P c z else none) else if ai.2.2.1 = 998 then (match st with | .int n :: .int dp :: .ref d :: .int sp :: .ref o :: r => (fj_if (r.length ≤ 4 ∧ o < c ∧ d < c ∧ (fj_sh o).1 = 1 ∧ (fj_sh d).1 = 1 ∧ 0 ≤ sp ∧ 0 ≤ dp ∧ 0 ≤ n ∧ sp.toNatClampNeg + n.toNatClampNeg ≤ (fj_sh o).2 ∧ dp.toNatClampNeg + n.toNatClampNeg ≤ (fj_sh d).2) (fj_go (pc + 3) ls r (fj_cy M o d sp.toNatClampNeg dp.toNatClampNeg n.toNatClampNeg) P c z) none) | _ => none) else fj_if (ai.2.2.2.1 ≤ st.length ∧ fj_sk (st.drop ai.2.2.2.1) ∧ fj_nd ai.2.2.1 (st.take ai.2.2.2.1).reverse) (fj_ca ai.2.2.1 (fj_en ai.2.2.1 (st.take ai.2.2.2.1).reverse) (st.drop ai.2.2.2.1)) none
  | .invokespecial _ => if ai.2.2.1 = 999 then (match st with | .ref _ :: r => (if r.length ≤ 4 then fj_go (pc + 3) ls r M P c z else none) | _ => none) else fj_if (ai.2.2.2.1 < st.length ∧ fj_sk (st.drop (ai.2.2.2.1 + 1)) ∧ (∃ o, st[ai.2.2.2.1]? = some (.ref o)) ∧ fj_nd ai.2.2.1 (st.take (ai.2.2.2.1 + 1)).reverse) (fj_ca ai.2.2.1 (fj_en ai.2.2.1 (st.take (ai.2.2.2.1 + 1)).reverse) (st.drop (ai.2.2.2.1 + 1))) none
  | .ireturn => match st with | [.int v] => (if fj_rt y = some .boolean then (fj_if (fj_zo v) (fj_re (some (.int v))) none) else fj_re (some (.int v))) | _ => none
  | .lreturn => match st with | [.long v] => fj_re (some (.long v)) | _ => none
  | .return_ => match st with | [] => fj_re none | _ => none
  | _ => none

noncomputable def fj_run : Nat → fj_Sc → Nat → Nat → List Value → List Value → fj_HM → fj_HP → Nat → Nat → Option (Option Value × fj_HM × fj_HP × Nat × Nat)
  | 0, _, _, _, _, _, _, _, _, _ => none
  | n + 1, sc, y, pc, ls, st, M, P, c, z =>
    match fj_cd y pc with
    | none => none
    | some ai => match fj_stp y sc ai pc ls st M P c z with
      | none => none
      | some (.inl q) => fj_run n sc y q.1 q.2.1 q.2.2.1 q.2.2.2.1 q.2.2.2.2.1 q.2.2.2.2.2.1 q.2.2.2.2.2.2
      | some (.inr (.inl q)) => match fj_run n none q.1 0 q.2.1 [] M P c z with
        | none => none
        | some r => fj_if (r.2.2.2.1 = c ∨ fj_okl c ls q.2.2) (fj_run n sc y (pc + 3) ls (r.1.toList ++ q.2.2) r.2.1 r.2.2.1 r.2.2.2.1 r.2.2.2.2) none
      | some (.inr (.inr v)) => some (v, M, P, c, z)
