/-! ===== the checks of the methods' lists, by the kernel ===== -/
theorem jx_seg_in (k : Nat) : ∀ w ∈ jx_seg k, w ∈ lw_tbl := by
  have key : ∀ l : List Cond, (∀ w ∈ l, w ∈ k2_sels lw_privs ∨ w ∈ tables_1) → ∀ w ∈ l, w ∈ lw_tbl := fun l h w hw => List.mem_append.mpr (h w hw)
  unfold jx_seg
  split
  all_goals first
    | (intro w hw; cases hw; done)
    | (refine key _ (fun w hw => ?_); first
        | (refine Or.inr ?_; unfold tables_1; simp only [List.mem_append]; simp only [hw, true_or, or_true]; done)
        | (refine Or.inl ?_; unfold lw_privs k2_sels at *; simp only [List.map_append, List.mem_append]; simp only [hw, true_or, or_true]; done))
def jx_ws : List Cond := lw_tbl.filter goodWord
theorem jx_at_mem {α : Type} : ∀ {l : List α} {n : Nat} {x : α}, jx_at l n = some x → x ∈ l
  | _ :: _, 0, _, h => by cases h; exact List.mem_cons_self
  | _ :: _, n + 1, _, h => List.mem_cons_of_mem _ (jx_at_mem (n := n) h)
  | [], n, _, h => by cases n <;> cases h
theorem jx_pw_in {q : Nat × Nat} {w : Cond} (h : jx_pw q = some w) : w ∈ lw_tbl := jx_seg_in _ _ (jx_at_mem h)
theorem jx_ws_of {ps : List (Nat × Nat)} {l : List Cond} (h : l.map some = ps.map jx_pw) (hg : l.all goodWord = true) : ∀ w ∈ l, w ∈ jx_ws := by
  intro w hw
  refine List.mem_filter.mpr ⟨?_, List.all_eq_true.mp hg w hw⟩
  have h1 : some w ∈ l.map some := List.mem_map.mpr ⟨w, hw, rfl⟩
  rw [h] at h1
  obtain ⟨q, -, hq⟩ := List.mem_map.mp h1
  exact jx_pw_in hq
/-- what an instruction is in the class file -/
def jx_f4 (n : Nat) : Fin 4 := Fin.ofNat 4 n
def jx_cd (n : Nat) : ClassFile.Cond := match n with | 0 => .eq | 1 => .ne | 2 => .lt | 3 => .ge | 4 => .gt | _ => .le
def jx_ai (n : Nat) : ArrayType := match n with | 0 => .int | 1 => .byte | 2 => .boolean | _ => .long
def jx_re (i : jx_I) : Instr × Nat := match i.1 with
  | 1 => match i.2.2.1 with | 0 => (.iconst i.2.2.2.1, 1) | 1 => (.bipush i.2.2.2.1, 2) | 2 => (.sipush i.2.2.2.1, 3) | 3 => (.ldc i.2.1, 2) | _ => (.ldc_w i.2.1, 3)
  | 2 => if i.2.2.1 = 0 then (.lconst (Fin.ofNat 2 i.2.2.2.1.toNat), 1) else (.ldc2_w i.2.1, 3)
  | 3 => if i.2.2.1 = 1 then (.iload_n (jx_f4 i.2.1), 1) else (.iload i.2.1, 2)
  | 4 => if i.2.2.1 = 1 then (.lload_n (jx_f4 i.2.1), 1) else (.lload i.2.1, 2)
  | 5 => if i.2.2.1 = 1 then (.aload_n (jx_f4 i.2.1), 1) else (.aload i.2.1, 2)
  | 6 => if i.2.2.1 = 1 then (.istore_n (jx_f4 i.2.1), 1) else (.istore i.2.1, 2)
  | 7 => if i.2.2.1 = 1 then (.lstore_n (jx_f4 i.2.1), 1) else (.lstore i.2.1, 2)
  | 8 => if i.2.2.1 = 1 then (.astore_n (jx_f4 i.2.1), 1) else (.astore i.2.1, 2)
  | 9 => (.iinc i.2.1 i.2.2.2.1, 3)
  | 20 => (.iadd, 1) | 21 => (.isub, 1) | 22 => (.imul, 1) | 23 => (.iand, 1) | 24 => (.ior, 1) | 25 => (.ixor, 1) | 26 => (.ishl, 1) | 27 => (.ishr, 1) | 28 => (.iushr, 1) | 29 => (.ineg, 1) | 30 => (.idiv, 1) | 31 => (.irem, 1)
  | 32 => (.ladd, 1) | 33 => (.lmul, 1) | 34 => (.lor, 1) | 35 => (.lshl, 1) | 36 => (.i2l, 1) | 37 => (.l2i, 1) | 38 => (.i2b, 1) | 39 => (.i2c, 1) | 40 => (.lcmp, 1) | 41 => (.dup, 1) | 42 => (.dup2, 1) | 43 => (.pop, 1)
  | 44 => (.ldc i.2.2.1, 2)
  | 45 => (.getfield i.2.2.1, 3)
  | 46 => (.getstatic i.2.2.1, 3)
  | 50 => (.goto i.2.2.2.1, 3)
  | 51 => (.ifCond (jx_cd i.2.1) i.2.2.2.1, 3)
  | 52 => (.if_icmp (jx_cd i.2.1) i.2.2.2.1, 3)
  | 53 => (.tableswitch i.2.2.2.1 ((i.2.2.2.2.2.2.head?.map Prod.fst).getD 0) ((i.2.2.2.2.2.2.getLast?.map Prod.fst).getD 0) (i.2.2.2.2.2.2.map (fun x => x.2.2)).toArray, i.2.1)
  | 54 => (.lookupswitch i.2.2.2.1 (i.2.2.2.2.2.2.map (fun x => (x.1, x.2.2))).toArray, i.2.1)
  | 60 => (.getfield i.2.2.2.1.toNat, 3)
  | 61 => (.putfield i.2.2.2.1.toNat, 3)
  | 63 => (.iaload, 1) | 64 => (.baload, 1) | 65 => (.laload, 1) | 66 => (.aaload, 1) | 67 => (.iastore, 1) | 68 => (.bastore, 1) | 69 => (.lastore, 1) | 70 => (.aastore, 1) | 71 => (.arraylength, 1)
  | 72 => (.new i.2.2.2.1.toNat, 3)
  | 73 => (.newarray (jx_ai i.2.1), 2)
  | 74 => (.anewarray i.2.2.2.1.toNat, 3)
  | 75 => (.multianewarray i.2.2.2.1.toNat 2, 4)
  | 80 => match i.2.1 with | 0 => (.invokevirtual i.2.2.2.1.toNat, 3) | 1 => (.invokestatic i.2.2.2.1.toNat, 3) | _ => (.invokespecial i.2.2.2.1.toNat, 3)
  | 81 => (.invokespecial i.2.2.2.1.toNat, 3)
  | 82 => (.invokestatic i.2.2.2.1.toNat, 3)
  | 83 => (.invokestatic i.2.2.2.1.toNat, 3)
  | 90 => (.ireturn, 1) | 91 => (.lreturn, 1) | 92 => (.areturn, 1)
  | _ => (.return_, 1)
/-- what else holds of it: jumps go where they say, constants are what they say -/
def jx_to (q : List Nat) (pc b : Nat) (z : Int) : Bool := match jx_at q b with | some t => decide ((pc : Int) + z = (t : Int)) | none => false
def jx_sd (q : List Nat) (pc : Nat) (i : jx_I) : Bool := match i.1 with
  | 1 => match i.2.2.1 with | 0 => decide (Int32.ofInt i.2.2.2.1 = i.2.2.2.2.1) | 1 => decide ((Int8.ofInt i.2.2.2.1).toInt32 = i.2.2.2.2.1) | 2 => decide ((Int16.ofInt i.2.2.2.1).toInt32 = i.2.2.2.2.1) | _ => true
  | 2 => if i.2.2.1 = 0 then decide (Int64.ofNat ((Fin.ofNat 2 i.2.2.2.1.toNat : Fin 2) : Nat) = i.2.2.2.2.2.1) else true
  | 3 => i.2.2.1 == 0 || decide (i.2.1 < 4)
  | 4 => i.2.2.1 == 0 || decide (i.2.1 < 4)
  | 5 => i.2.2.1 == 0 || decide (i.2.1 < 4)
  | 6 => i.2.2.1 == 0 || decide (i.2.1 < 4)
  | 7 => i.2.2.1 == 0 || decide (i.2.1 < 4)
  | 8 => i.2.2.1 == 0 || decide (i.2.1 < 4)
  | 9 => decide (Int32.ofInt i.2.2.2.1 = i.2.2.2.2.1)
  | 50 => jx_to q pc i.2.2.1 i.2.2.2.1
  | 51 => jx_to q pc i.2.2.1 i.2.2.2.1
  | 52 => jx_to q pc i.2.2.1 i.2.2.2.1
  | 53 => jx_to q pc i.2.2.1 i.2.2.2.1 && i.2.2.2.2.2.2.all (fun x => jx_to q pc x.2.1 x.2.2) && decide (0 < i.2.2.2.2.2.2.length) && (List.range i.2.2.2.2.2.2.length).all (fun j => decide ((jx_at i.2.2.2.2.2.2 j).map Prod.fst = some ((i.2.2.2.2.2.2.head?.map Prod.fst).getD 0 + (j : Int))))
  | 54 => jx_to q pc i.2.2.1 i.2.2.2.1 && i.2.2.2.2.2.2.all (fun x => jx_to q pc x.2.1 x.2.2) && ((i.2.2.2.2.2.2.map (fun x => (x.1, x.2.2))).zip ((i.2.2.2.2.2.2.map (fun x => (x.1, x.2.2))).drop 1)).all (fun (a, next) => a.1 < next.1)
  | _ => true
def jx_end (i : jx_I) : Bool := i.1 == 50 || i.1 == 53 || i.1 == 54 || decide (90 ≤ i.1)
def jx_ok1 (Y : jx_M) (n : Nat) : Bool := match jx_at Y.2.2.2.2.2.2.2 n, jx_at Y.2.2.2.2.2.2.1 n with
  | some i, some pc => i.1 == 0 || (decide (decode Y.2.1 pc = .ok (jx_re i)) && (jx_end i || decide (jx_at Y.2.2.2.2.2.2.1 (n + 1) = some (pc + (jx_re i).2))) && jx_sd Y.2.2.2.2.2.2.1 pc i)
  | _, _ => false
def jx_ck (Y : jx_M) : Bool := (List.range Y.2.2.2.2.2.2.2.length).all (jx_ok1 Y) && decide (jx_at Y.2.2.2.2.2.2.1 0 = some 0) && plainFor Y.1 && decide (Y.1.cls ≠ "java/lang/invoke/MethodHandle") && decide (Y.1.cls ≠ "java/lang/invoke/VarHandle") && decide ((parseMethodDescriptor Y.1.desc).map (fun d => d.parameters.length) = some Y.2.2.2.2.1) && decide (Y.2.2.2.2.2.1 = 2 ↔ Y.1.name = "<init>")
