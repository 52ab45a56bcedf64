theorem jx_AOA_moved {u U : State} (hvm : u.vm.Alike U.vm) (h : va_Nw (.arrayOver (.array .int)) u) : va_Nw (.arrayOver (.array .int)) U := by
  obtain ⟨comp, c, k, h1, h2, h3, h4, h5⟩ := arrayOverA_spec (show (Cond.arrayOver (.array .int)).holds #[] u none u [] = true from h)
  obtain ⟨k', hk', he⟩ := hvm.2.2 _ _ h3
  have hi : (U.vm.classes.findIdx? fun (x : Class) => match x.kind with | .array component _ => component == comp | _ => false) = some c := by
    have e1 := va_idx_bare U.vm comp
    have e2 := va_idx_bare u.vm comp
    have e3 : U.vm.bare = u.vm.bare := by first | exact hvm.bare_eq | exact hvm.bare_eq.symm
    rw [e3] at e1
    exact e1.symm.trans (e2.trans h2)
  have hkind : k'.kind = .array comp (.array .int) := by rw [he]; exact h4
  have f1 : U.vm.findClass (FieldType.array .int).toString = some comp := by rw [hvm.findClass]; exact h1
  have f2 : U.vm.findClass ("[" ++ (FieldType.array .int).toString) = some c := by rw [hvm.findClass]; exact h5
  unfold va_Nw Cond.before Cond.holds
  simp only [Cond.value]
  rw [f1, Option.bind_some]
  refine (congrArg (fun o : Option Nat => (o.bind (fun c => (U.vm.classes[c]?).map fun (k : Class) => match k.kind with | .array _ ty => decide (ty = FieldType.array .int) && decide (U.vm.findClass ("[" ++ (FieldType.array .int).toString) = some c) | _ => false) == some true)) hi).trans ?_
  simp [hk', hkind, f2]
theorem jx_ex_moved {A : Nat → Prop} {g : jx_E} {s U : State} {H : Heap} {locs : List Loc} (hE : jx_ex A g s) (S : va_S A s.heap H locs) (hU : U.heap = H) (hW : s.WarmedH U.vm) : jx_ex A g U := by
  obtain ⟨h1, h2, h3, h4, h5, h6, h7, h8, h9⟩ := hE
  have hk : ∀ a : Nat, a < s.heap.size → ¬ A a → U.heap[a]? = s.heap[a]? := fun a ha hn => by rw [hU]; exact S.2.1 a ha hn
  exact ⟨(h1.moved hW.alike).kept hk, fun i hi => (h2 i hi).warm hW, (h3.moved hW.alike).kept hk, (h4.moved hW.alike).kept hk, h5.warmM hW, h6.warmM hW, h7.moved hW.alike, h8.moved hW.alike, jx_AOA_moved hW.alike h9⟩
/-- the locals at a method's start -/
def jx_ea : List jx_V → List (Option jx_V)
  | [] => []
  | .inr (.inl x) :: l => some (.inr (.inl x)) :: none :: jx_ea l
  | .inl x :: l => some (.inl x) :: jx_ea l
  | .inr (.inr x) :: l => some (.inr (.inr x)) :: jx_ea l
def jx_el (nL : Nat) (as : List jx_V) : List (Option jx_V) := jx_ea as ++ List.replicate (nL - (jx_ea as).length) none
def jx_Ev (Y : jx_M) (d mc ms : Nat) (al : Bool) (sd : Nat) (as : List jx_V) (h : jx_H) (Q : Option jx_V → jx_H → Prop) : Prop := jx_W (Y, d, mc, ms, al, sd, jh_n h) Q 0 0 0 (jx_el Y.2.2.1 as) [] h
theorem jx_sl_cons (v : Value) (t : List Value) : (lg_sl (v :: t)).length = (if v.category = 2 then 2 else 1) + (lg_sl t).length := by
  unfold lg_sl
  rw [List.flatMap_cons, List.length_append]
  split <;> rfl
theorem jx_ea_sl (sd : Nat) (g : jx_E) : ∀ as : List jx_V, (lg_sl (as.map (jx_cv sd g))).length = (jx_ea as).length
  | [] => rfl
  | .inr (.inl x) :: l => by
    rw [List.map_cons, jx_sl_cons, jx_ea_sl sd g l, if_pos (show (jx_cv sd g (.inr (.inl x))).category = 2 from rfl)]
    show _ = (jx_ea l).length + 1 + 1
    omega
  | .inl x :: l => by
    rw [List.map_cons, jx_sl_cons, jx_ea_sl sd g l, if_neg (show ¬ (jx_cv sd g (.inl x)).category = 2 from fun z => by cases z)]
    show _ = (jx_ea l).length + 1
    omega
  | .inr (.inr x) :: l => by
    have hc : (jx_cv sd g (.inr (.inr x))).category = 1 := jx_c1 sd g (fun _ z => by cases z)
    rw [List.map_cons, jx_sl_cons, jx_ea_sl sd g l, if_neg (by rw [hc]; decide)]
    show _ = (jx_ea l).length + 1
    omega
theorem jx_as_ea (sd : Nat) (g : jx_E) : ∀ (as : List jx_V) (k : Nat), jx_as (jx_cv sd g) (jx_ea as) k = lv_args k (as.map (jx_cv sd g))
  | [], _ => rfl
  | .inr (.inl x) :: l, k => by
    have h := jx_as_ea sd g l (k + 2)
    show (k, _) :: jx_as (jx_cv sd g) (jx_ea l) (k + 1 + 1) = (k, _) :: lv_args _ _
    rw [if_pos (show (jx_cv sd g (.inr (.inl x))).category = 2 from rfl)]
    rw [h]
  | .inl x :: l, k => by
    have h := jx_as_ea sd g l (k + 1)
    show (k, _) :: jx_as (jx_cv sd g) (jx_ea l) (k + 1) = (k, _) :: lv_args _ _
    rw [if_neg (show ¬ (jx_cv sd g (.inl x)).category = 2 from fun z => by cases z)]
    rw [h]
  | .inr (.inr x) :: l, k => by
    have h := jx_as_ea sd g l (k + 1)
    have hc : (jx_cv sd g (.inr (.inr x))).category = 1 := jx_c1 sd g (fun _ z => by cases z)
    show (k, _) :: jx_as (jx_cv sd g) (jx_ea l) (k + 1) = (k, _) :: lv_args _ _
    rw [if_neg (by rw [hc]; decide)]
    rw [h]
theorem jx_as_app (cv : jx_V → Value) : ∀ (a : List (Option jx_V)) (m k : Nat), jx_as cv (a ++ List.replicate m none) k = jx_as cv a k
  | [], 0, _ => rfl
  | [], m + 1, k => by
    show jx_as cv (none :: List.replicate m none) k = []
    exact jx_as_app cv [] m (k + 1)
  | none :: l, m, k => jx_as_app cv l m (k + 1)
  | some v :: l, m, k => congrArg ((k, cv v) :: ·) (jx_as_app cv l m (k + 1))
theorem jx_vl_el {sd n nL : Nat} {as : List jx_V} (h : jx_vs sd n as) : jx_vl sd n (jx_el nL as) := by
  have key : ∀ m, jx_vl sd n (List.replicate m none) := by
    intro m
    induction m with
    | zero => trivial
    | succ m ih => exact ih
  unfold jx_el
  generalize nL - (jx_ea as).length = m
  induction as with
  | nil => exact key m
  | cons v l ih =>
    match v with
    | .inl x => exact ⟨trivial, ih h.2⟩
    | .inr (.inl x) => exact ⟨trivial, ih h.2⟩
    | .inr (.inr x) => exact ⟨h.1, ih h.2⟩
/-- what is known of each method: its checks, its words -/
def jx_fa (Y : jx_M) : Prop := jx_ck Y = true ∧ (∀ w ∈ jx_al Y, w ∈ jx_ws)
theorem jx_good {w : Cond} (h : w ∈ jx_ws) : (w.onTables && w.keeps) = true ∨ ∃ ty, w = .arrayClass ty := good_of_word (List.mem_filter.mp h).2
theorem jx_goodIn {Y : jx_M} (hf : jx_fa Y) : GoodIn jx_ws (.code Y.1 Y.2.1 Y.2.2.1 Y.2.2.2.1 :: jx_ws) := by
  intro w hw
  have h : w ∈ jx_ws := by
    rcases List.mem_cons.mp hw with rfl | h
    · exact hf.2 _ (List.mem_append_left _ List.mem_cons_self)
    · exact h
  exact ⟨h, jx_good h⟩
theorem jx_ck_facts {Y : jx_M} (h : jx_ck Y = true) : jx_at (jm_q Y) 0 = some 0 ∧ plainFor Y.1 = true ∧ (Y.1.cls ≠ "java/lang/invoke/MethodHandle" ∧ Y.1.cls ≠ "java/lang/invoke/VarHandle" ∧ (parseMethodDescriptor Y.1.desc).map (fun d => d.parameters.length) = some Y.2.2.2.2.1) ∧ (Y.2.2.2.2.2.1 = 2 ↔ Y.1.name = "<init>") := by
  simp only [jx_ck, Bool.and_eq_true, decide_eq_true_eq] at h
  obtain ⟨⟨⟨⟨⟨⟨-, h1⟩, h2⟩, h3⟩, h4⟩, h5⟩, h6⟩ := h
  exact ⟨h1, h2, ⟨h3, h4, h5⟩, h6⟩
def jx_Pq (sd : Nat) (al : Bool) (g : jx_E) (as : List jx_V) (h : jx_H) : Array Value → State → Prop := va_Pc (as.map (jx_cv sd g)) (fun U => jx_rp sd al g h U.heap ∧ va_K g.2.1 jx_cl (jx_tys g) U ∧ jx_ex (jx_A sd al g) g U ∧ g.1 ≤ U.heap.size)
theorem jx_blind {sd : Nat} {al : Bool} {g : jx_E} {as : List jx_V} {h : jx_H} : FrameBlind (jx_Pq sd al g as h) := by
  intro a U f mk q
  obtain ⟨q1, q2, q3, q4, q5⟩ := q
  refine ⟨q1, q2, va_K.moved (u := U) (U := U.calling f mk a) (Vm.Alike.refl U.vm) q3, ?_, q5⟩
  obtain ⟨e1, e2, e3, e4, e5, e6, e7, e8, e9⟩ := q4
  exact ⟨e1.moved (U := U.calling f mk a) (Vm.Alike.refl U.vm), fun i hi => (e2 i hi).same (U := U.calling f mk a) rfl, e3.moved (U := U.calling f mk a) (Vm.Alike.refl U.vm), e4.moved (U := U.calling f mk a) (Vm.Alike.refl U.vm), va_Nw.same (U := U.calling f mk a) rfl rfl e5, va_Nw.same (U := U.calling f mk a) rfl rfl e6, e7.moved (U := U.calling f mk a) (Vm.Alike.refl U.vm), e8.moved (U := U.calling f mk a) (Vm.Alike.refl U.vm), jx_AOA_moved (U := U.calling f mk a) (Vm.Alike.refl U.vm) e9⟩
theorem jx_met {Y : jx_M} {d mc ms sd : Nat} {al : Bool} {as : List jx_V} {h : jx_H} {Q : Option jx_V → jx_H → Prop} (hf : jx_fa Y) (hv : jx_vs sd (jh_n h) as) (hlen : (jx_ea as).length ≤ Y.2.2.1) (hE : jx_Ev Y d mc ms al sd as h Q) (g : jx_E) (l : Launch) :
    Met l Y.1 (.code Y.1 Y.2.1 Y.2.2.1 Y.2.2.2.1 :: jx_ws) (jx_rm d mc ms) (jx_Pq sd al g as h) (jx_Qc (Y, d, mc, ms, al, sd, jh_n h) g Q) mc ms (jx_A sd al g) := by
  obtain ⟨f1, f2, f3, f4⟩ := jx_ck_facts hf.1
  refine MetFree.of_bodySF (code := Y.2.1) (maxLocals := Y.2.2.1) (ret := Y.2.2.2.1) f2 ?_ ?_
  · intro args s m h hn
    obtain ⟨meth, c, h1, h2, h3, h4, h5, h6, -, -⟩ := Cond.code_spec hn (atoms_spec (ws := .code Y.1 Y.2.1 Y.2.2.1 Y.2.2.2.1 :: jx_ws) h _ List.mem_cons_self)
    exact ⟨meth, c, h1, h2, h3, h4, h5, h6⟩
  · intro p e s m args below meth c s₁ B hml hP _
    have hh0 : s₁.heap = s.heap := by rw [B.state]; rfl
    obtain ⟨rfl, hRp, hK, hEx, hg1⟩ := hP
    have hts := atoms_spec (ws := .code Y.1 Y.2.1 Y.2.2.1 Y.2.2.2.1 :: jx_ws) B.pre
    have hsl := jx_ea_sl sd g as
    have hl := lv_entry (as.map (jx_cv sd g)) (n := Y.2.2.1) (by rw [hsl]; exact hlen)
    have hW := hE g p l e (jx_rm d mc ms) s m _ below meth c ⟨B.exec, B.bytes, hml, B.returns, findClass_of_methodNamed B.named, fun w hw => hts w (List.mem_cons_of_mem _ hw), B.notSynchronized, (name_of_methodNamed B.named B.method).1, hK, hEx, hg1, rfl, hf.1, hf.2⟩
      s.heap [] _ 0 hRp va_S.rf ⟨by
        unfold jx_el
        rw [jx_as_app, jx_as_ea]
        exact hl, by show (jx_ea as ++ List.replicate (Y.2.2.1 - (jx_ea as).length) none).length = Y.2.2.1; rw [List.length_append, List.length_replicate]; omega⟩ (jx_vl_el hv) trivial (Nat.le_refl _) f1
    obtain ⟨t, a1, o, b1, b2, b3⟩ := hW s₁ hh0 (Stand.of_body B)
    have a2 : Steps p.tables e below (s₁.setTop (entryFrame m (as.map (jx_cv sd g)).toArray Y.2.2.1)) t := by rw [lg_entry_eq]; exact a1
    exact ⟨t, o, a2, b1, b2, ⟨b3.1, b3.2⟩⟩
