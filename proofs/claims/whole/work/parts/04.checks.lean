
/-! ===== each instruction's row of the tables is right ===== -/
def fj_wd (i : Nat) (w : Jvm.Cond) : Bool := decide (lw_tbl[i]? = some w) && goodWord w
theorem fj_wd_ok {i : Nat} {w : Jvm.Cond} (h : fj_wd i w = true) : w ∈ fj_T := by
  unfold fj_wd at h
  rw [Bool.and_eq_true, decide_eq_true_eq] at h
  exact List.mem_filter.mpr ⟨List.mem_of_getElem? h.1, h.2⟩
/-- what a callee must be: its words, its parameters, its room -/
def fj_okC (y a b : Nat) : Bool := decide (a < 165) && (decide ((parseMethodDescriptor (fj_yn a).desc).map (fun d => d.parameters.length) = some b) && (decide (fj_fr a + 1 ≤ fj_fr y) && decide (8 + (fj_ml a + 11) + fj_lo a ≤ fj_lo y)))
def fj_okI (y pc : Nat) (ai : fj_AI) : Bool :=
  decide (decode (fj_bc y) pc = .ok (ai.1, ai.2.1)) && (match ai.1 with
  | .iconst n => ai.2.1 == 1 && decide (Int32.ofInt n = Int32.ofInt ai.2.2.2.2.1)
  | .bipush n => ai.2.1 == 2 && decide ((Int8.ofInt n).toInt32 = Int32.ofInt ai.2.2.2.2.1)
  | .sipush n => ai.2.1 == 3 && decide ((Int16.ofInt n).toInt32 = Int32.ofInt ai.2.2.2.2.1)
  | .lconst n => ai.2.1 == 1 && decide (Int64.ofNat (n : Nat) = Int64.ofInt ai.2.2.2.2.1)
  | .ldc i => ai.2.1 == 2 && fj_wd (ai.2.2.2.2.2.getD 0 0) (.constant (fj_ow y) i (Int32.ofInt ai.2.2.2.2.1))
  | .ldc_w i => ai.2.1 == 3 && fj_wd (ai.2.2.2.2.2.getD 0 0) (.constant (fj_ow y) i (Int32.ofInt ai.2.2.2.2.1))
  | .ldc2_w i => ai.2.1 == 3 && fj_wd (ai.2.2.2.2.2.getD 0 0) (.constantLong (fj_ow y) i (Int64.ofInt ai.2.2.2.2.1))
  | .iload_n n => ai.2.1 == 1 && (n : Nat) == ai.2.2.1
  | .aload_n n => ai.2.1 == 1 && (n : Nat) == ai.2.2.1
  | .lload_n n => ai.2.1 == 1 && (n : Nat) == ai.2.2.1
  | .istore_n n => ai.2.1 == 1 && (n : Nat) == ai.2.2.1
  | .astore_n n => ai.2.1 == 1 && (n : Nat) == ai.2.2.1
  | .lstore_n n => ai.2.1 == 1 && (n : Nat) == ai.2.2.1
  | .iload n => ai.2.1 == 2 && n == ai.2.2.1
  | .aload n => ai.2.1 == 2 && n == ai.2.2.1
  | .lload n => ai.2.1 == 2 && n == ai.2.2.1
  | .istore n => ai.2.1 == 2 && n == ai.2.2.1
  | .astore n => ai.2.1 == 2 && n == ai.2.2.1
  | .lstore n => ai.2.1 == 2 && n == ai.2.2.1
  | .iinc n k => ai.2.1 == 3 && (n == ai.2.2.1 && decide (Int32.ofInt k = Int32.ofInt ai.2.2.2.2.1))
  | .iadd => ai.2.1 == 1 | .isub => ai.2.1 == 1 | .imul => ai.2.1 == 1 | .iand => ai.2.1 == 1 | .ior => ai.2.1 == 1 | .ixor => ai.2.1 == 1
  | .ishl => ai.2.1 == 1 | .ishr => ai.2.1 == 1 | .iushr => ai.2.1 == 1 | .idiv => ai.2.1 == 1 | .irem => ai.2.1 == 1 | .ineg => ai.2.1 == 1
  | .i2l => ai.2.1 == 1 | .i2b => ai.2.1 == 1 | .i2s => ai.2.1 == 1 | .ladd => ai.2.1 == 1 | .lsub => ai.2.1 == 1 | .ldiv => ai.2.1 == 1 | .lrem => ai.2.1 == 1
  | .lcmp => ai.2.1 == 1 | .lshl => ai.2.1 == 1 | .dup => ai.2.1 == 1 | .iaload => ai.2.1 == 1 | .baload => ai.2.1 == 1 | .iastore => ai.2.1 == 1 | .bastore => ai.2.1 == 1 | .arraylength => ai.2.1 == 1
  | .ifCond _ o => ai.2.1 == 3 && decide ((pc : Int) + o = (ai.2.2.1 : Int))
  | .if_icmp _ o => ai.2.1 == 3 && decide ((pc : Int) + o = (ai.2.2.1 : Int))
  | .goto o => ai.2.1 == 3 && decide ((pc : Int) + o = (ai.2.2.1 : Int))
  | .tableswitch _ _ _ _ => true
  | .lookupswitch _ ps => (ps.toList.zip (ps.toList.drop 1)).all (fun (a, next) => a.1 < next.1)
  | .getfield i => ai.2.1 == 3 && (match fj_cl[ai.2.2.1]? with
    | some q => decide (ai.2.2.2.1 < q.2.2) && fj_wd (ai.2.2.2.2.2.getD 0 0) (.fieldLink (fj_ow y) i q.1 (q.2.1 ai.2.2.2.1).2.1 (q.2.1 ai.2.2.2.1).2.2.1)
    | none => false)
  | .putfield i => ai.2.1 == 3 && (match fj_cl[ai.2.2.1]? with
    | some q => decide (ai.2.2.2.1 < q.2.2) && (fj_wd (ai.2.2.2.2.2.getD 0 0) (.fieldLink (fj_ow y) i q.1 (q.2.1 ai.2.2.2.1).2.1 (q.2.1 ai.2.2.2.1).2.2.1) && (!(q.2.1 ai.2.2.2.1).2.2.2 || (fj_ini y && decide (q.1 = fj_ow y))))
    | none => false)
  | .new i => ai.2.1 == 3 && (match fj_cl[ai.2.2.1]? with
    | some q => fj_wd (ai.2.2.2.2.2.getD 0 0) (.classLink (fj_ow y) i q.1) && (fj_wd (ai.2.2.2.2.2.getD 1 0) (.instantiable q.1 q.2.2) && fj_wd (ai.2.2.2.2.2.getD 2 0) (.initialized q.1))
    | none => false)
  | .newarray t => ai.2.1 == 2 && (fj_wd (ai.2.2.2.2.2.getD 0 0) (.arrayClass (newarray.typeOf t)) && ((ai.2.2.1 == 1 && decide (t = .int)) || (ai.2.2.1 == 2 && decide (t = .boolean))))
  | .invokevirtual i => ai.2.1 == 3 && (fj_okC y ai.2.2.1 ai.2.2.2.1 && (fj_wd (ai.2.2.2.2.2.getD 0 0) (.methodLink (fj_ow y) i (fj_yn ai.2.2.1)) && (fj_wd (ai.2.2.2.2.2.getD 1 0) (.instanceMethod (fj_yn ai.2.2.1)) && (fj_wd (ai.2.2.2.2.2.getD 2 0) (.selects (fj_yn ai.2.2.1).cls (fj_yn ai.2.2.1) (fj_yn ai.2.2.1)) && (fj_wd (ai.2.2.2.2.2.getD 3 0) (.initialized (fj_yn ai.2.2.1).cls) && decide ((fj_cl[fj_ci ai.2.2.1]?).map (fun q => q.1) = some (fj_yn ai.2.2.1).cls))))))
  | .invokestatic i => ai.2.1 == 3 && (if ai.2.2.1 = 997 then fj_wd (ai.2.2.2.2.2.getD 0 0) (.methodLink (fj_ow y) i Lib.Math.abs.name) && (fj_wd (ai.2.2.2.2.2.getD 1 0) (.static Lib.Math.abs.name) && (fj_wd (ai.2.2.2.2.2.getD 2 0) (.initialized "java/lang/Math") && (fj_wd (ai.2.2.2.2.2.getD 3 0) (.code Lib.Math.abs.name Lib.Math.abs.code 1 (some .int)) && (decide (1 ≤ fj_fr y) && decide (21 ≤ fj_lo y)))))
    else if ai.2.2.1 = 996 then fj_wd (ai.2.2.2.2.2.getD 0 0) (.methodLink (fj_ow y) i Lib.Math.min.name) && (fj_wd (ai.2.2.2.2.2.getD 1 0) (.static Lib.Math.min.name) && (fj_wd (ai.2.2.2.2.2.getD 2 0) (.initialized "java/lang/Math") && (fj_wd (ai.2.2.2.2.2.getD 3 0) (.code Lib.Math.min.name Lib.Math.min.code 2 (some .int)) && (decide (1 ≤ fj_fr y) && decide (21 ≤ fj_lo y)))))
    else if ai.2.2.1 = 998 then fj_wd (ai.2.2.2.2.2.getD 0 0) (.methodLink (fj_ow y) i arraycopyName) && (fj_wd (ai.2.2.2.2.2.getD 1 0) (.native arraycopyName) && (fj_wd (ai.2.2.2.2.2.getD 2 0) (.static arraycopyName) && (fj_wd (ai.2.2.2.2.2.getD 3 0) (.initialized "java/lang/System") && (decide (1 ≤ fj_fr y) && decide (8 + (nativeFrameWords "java/lang/System" "arraycopy" 5 + 11) ≤ fj_lo y)))))
    else fj_okC y ai.2.2.1 ai.2.2.2.1 && (fj_wd (ai.2.2.2.2.2.getD 0 0) (.methodLink (fj_ow y) i (fj_yn ai.2.2.1)) && (fj_wd (ai.2.2.2.2.2.getD 1 0) (.static (fj_yn ai.2.2.1)) && fj_wd (ai.2.2.2.2.2.getD 2 0) (.initialized (fj_yn ai.2.2.1).cls))))
  | .invokespecial i => ai.2.1 == 3 && (if ai.2.2.1 = 999 then fj_wd (ai.2.2.2.2.2.getD 0 0) (.methodLink (fj_ow y) i objectInit) && (fj_wd (ai.2.2.2.2.2.getD 1 0) (.instanceMethod objectInit) && (fj_wd (ai.2.2.2.2.2.getD 2 0) (.code objectInit ⟨#[0xb1]⟩ 1 none) && (decide (1 ≤ fj_fr y) && decide (8 + 12 ≤ fj_lo y))))
    else fj_okC y ai.2.2.1 ai.2.2.2.1 && ((if ai.2.2.2.2.1 = 1 then decide (fj_N[ai.2.2.2.2.2.getD 0 0]? = some (.methodLinkNest (fj_ow y) i (fj_yn ai.2.2.1) "FortyJars")) else fj_wd (ai.2.2.2.2.2.getD 0 0) (.methodLink (fj_ow y) i (fj_yn ai.2.2.1))) && (fj_wd (ai.2.2.2.2.2.getD 1 0) (.instanceMethod (fj_yn ai.2.2.1)) && (fj_wd (ai.2.2.2.2.2.getD 2 0) (.initialized (fj_yn ai.2.2.1).cls) && (decide ((fj_yn ai.2.2.1).name = "<init>") && decide (fj_rt ai.2.2.1 = none))))))
  | .ireturn => ai.2.1 == 1 && (decide (fj_rt y = some .int) || decide (fj_rt y = some .boolean))
  | .lreturn => ai.2.1 == 1 && decide (fj_rt y = some .long)
  | .return_ => ai.2.1 == 1 && decide (fj_rt y = none)
  | _ => false)
/-- a method's rows -/
def fj_okM (y : Nat) : Bool := (fj_me y).2.2.2.2.2.2.2.2.all (fun q => fj_okI y q.1 q.2)
/-- what a method is, besides -/
def fj_okY (y : Nat) : Bool := plainName (fj_yn y).cls && (decide (fj_ow y = (fj_yn y).cls) && ((!fj_ini y || decide ((fj_yn y).name = "<init>")) && (decide ((fj_yn y).cls ≠ "java/lang/invoke/MethodHandle") && decide ((fj_yn y).cls ≠ "java/lang/invoke/VarHandle"))))
theorem fj_lookup_mem {α : Type} {l : List (Nat × α)} {k : Nat} {v : α} (h : l.lookup k = some v) : (k, v) ∈ l := by
  induction l with
  | nil => cases h
  | cons q l ih =>
    obtain ⟨a, b⟩ := q
    rw [List.lookup_cons] at h
    by_cases e : k = a
    · subst e
      simp at h
      subst h
      exact List.mem_cons_self
    · rw [show (k == a) = false from by simpa using e] at h
      exact List.mem_cons_of_mem _ (ih h)

theorem fj_okM_0 : fj_okM 0 = true := by decide +kernel
theorem fj_okM_1 : fj_okM 1 = true := by decide +kernel
theorem fj_okM_2 : fj_okM 2 = true := by decide +kernel
theorem fj_okM_3 : fj_okM 3 = true := by decide +kernel
theorem fj_okM_4 : fj_okM 4 = true := by decide +kernel
theorem fj_okM_5 : fj_okM 5 = true := by decide +kernel
theorem fj_okM_6 : fj_okM 6 = true := by decide +kernel
theorem fj_okM_7 : fj_okM 7 = true := by decide +kernel
theorem fj_okM_8 : fj_okM 8 = true := by decide +kernel
theorem fj_okM_9 : fj_okM 9 = true := by decide +kernel
theorem fj_okM_10 : fj_okM 10 = true := by decide +kernel
theorem fj_okM_11 : fj_okM 11 = true := by decide +kernel
theorem fj_okM_12 : fj_okM 12 = true := by decide +kernel
theorem fj_okM_13 : fj_okM 13 = true := by decide +kernel
theorem fj_okM_14 : fj_okM 14 = true := by decide +kernel
theorem fj_okM_15 : fj_okM 15 = true := by decide +kernel
theorem fj_okM_16 : fj_okM 16 = true := by decide +kernel
theorem fj_okM_17 : fj_okM 17 = true := by decide +kernel
theorem fj_okM_18 : fj_okM 18 = true := by decide +kernel
theorem fj_okM_19 : fj_okM 19 = true := by decide +kernel
theorem fj_okM_20 : fj_okM 20 = true := by decide +kernel
theorem fj_okM_21 : fj_okM 21 = true := by decide +kernel
theorem fj_okM_22 : fj_okM 22 = true := by decide +kernel
theorem fj_okM_23 : fj_okM 23 = true := by decide +kernel
theorem fj_okM_24 : fj_okM 24 = true := by decide +kernel
theorem fj_okM_25 : fj_okM 25 = true := by decide +kernel
theorem fj_okM_26 : fj_okM 26 = true := by decide +kernel
theorem fj_okM_27 : fj_okM 27 = true := by decide +kernel
theorem fj_okM_28 : fj_okM 28 = true := by decide +kernel
theorem fj_okM_29 : fj_okM 29 = true := by decide +kernel
theorem fj_okM_30 : fj_okM 30 = true := by decide +kernel
theorem fj_okM_31 : fj_okM 31 = true := by decide +kernel
theorem fj_okM_32 : fj_okM 32 = true := by decide +kernel
theorem fj_okM_33 : fj_okM 33 = true := by decide +kernel
theorem fj_okM_34 : fj_okM 34 = true := by decide +kernel
theorem fj_okM_35 : fj_okM 35 = true := by decide +kernel
theorem fj_okM_36 : fj_okM 36 = true := by decide +kernel
theorem fj_okM_37 : fj_okM 37 = true := by decide +kernel
theorem fj_okM_38 : fj_okM 38 = true := by decide +kernel
theorem fj_okM_39 : fj_okM 39 = true := by decide +kernel
theorem fj_okM_40 : fj_okM 40 = true := by decide +kernel
theorem fj_okM_41 : fj_okM 41 = true := by decide +kernel
theorem fj_okM_42 : fj_okM 42 = true := by decide +kernel
theorem fj_okM_43 : fj_okM 43 = true := by decide +kernel
theorem fj_okM_44 : fj_okM 44 = true := by decide +kernel
theorem fj_okM_45 : fj_okM 45 = true := by decide +kernel
theorem fj_okM_46 : fj_okM 46 = true := by decide +kernel
theorem fj_okM_47 : fj_okM 47 = true := by decide +kernel
theorem fj_okM_48 : fj_okM 48 = true := by decide +kernel
theorem fj_okM_49 : fj_okM 49 = true := by decide +kernel
theorem fj_okM_50 : fj_okM 50 = true := by decide +kernel
theorem fj_okM_51 : fj_okM 51 = true := by decide +kernel
theorem fj_okM_52 : fj_okM 52 = true := by decide +kernel
theorem fj_okM_53 : fj_okM 53 = true := by decide +kernel
theorem fj_okM_54 : fj_okM 54 = true := by decide +kernel
theorem fj_okM_55 : fj_okM 55 = true := by decide +kernel
theorem fj_okM_56 : fj_okM 56 = true := by decide +kernel
theorem fj_okM_57 : fj_okM 57 = true := by decide +kernel
theorem fj_okM_58 : fj_okM 58 = true := by decide +kernel
theorem fj_okM_59 : fj_okM 59 = true := by decide +kernel
theorem fj_okM_60 : fj_okM 60 = true := by decide +kernel
theorem fj_okM_61 : fj_okM 61 = true := by decide +kernel
theorem fj_okM_62 : fj_okM 62 = true := by decide +kernel
theorem fj_okM_63 : fj_okM 63 = true := by decide +kernel
theorem fj_okM_64 : fj_okM 64 = true := by decide +kernel
theorem fj_okM_65 : fj_okM 65 = true := by decide +kernel
theorem fj_okM_66 : fj_okM 66 = true := by decide +kernel
theorem fj_okM_67 : fj_okM 67 = true := by decide +kernel
theorem fj_okM_68 : fj_okM 68 = true := by decide +kernel
theorem fj_okM_69 : fj_okM 69 = true := by decide +kernel
theorem fj_okM_70 : fj_okM 70 = true := by decide +kernel
theorem fj_okM_71 : fj_okM 71 = true := by decide +kernel
theorem fj_okM_72 : fj_okM 72 = true := by decide +kernel
theorem fj_okM_73 : fj_okM 73 = true := by decide +kernel
theorem fj_okM_74 : fj_okM 74 = true := by decide +kernel
theorem fj_okM_75 : fj_okM 75 = true := by decide +kernel
theorem fj_okM_76 : fj_okM 76 = true := by decide +kernel
theorem fj_okM_77 : fj_okM 77 = true := by decide +kernel
theorem fj_okM_78 : fj_okM 78 = true := by decide +kernel
theorem fj_okM_79 : fj_okM 79 = true := by decide +kernel
theorem fj_okM_80 : fj_okM 80 = true := by decide +kernel
theorem fj_okM_81 : fj_okM 81 = true := by decide +kernel
theorem fj_okM_82 : fj_okM 82 = true := by decide +kernel
theorem fj_okM_83 : fj_okM 83 = true := by decide +kernel
theorem fj_okM_84 : fj_okM 84 = true := by decide +kernel
theorem fj_okM_85 : fj_okM 85 = true := by decide +kernel
theorem fj_okM_86 : fj_okM 86 = true := by decide +kernel
theorem fj_okM_87 : fj_okM 87 = true := by decide +kernel
theorem fj_okM_88 : fj_okM 88 = true := by decide +kernel
theorem fj_okM_89 : fj_okM 89 = true := by decide +kernel
theorem fj_okM_90 : fj_okM 90 = true := by decide +kernel
theorem fj_okM_91 : fj_okM 91 = true := by decide +kernel
theorem fj_okM_92 : fj_okM 92 = true := by decide +kernel
theorem fj_okM_93 : fj_okM 93 = true := by decide +kernel
theorem fj_okM_94 : fj_okM 94 = true := by decide +kernel
theorem fj_okM_95 : fj_okM 95 = true := by decide +kernel
