/-! ===== the machine over the layout: values, heap, what a state holds ===== -/
abbrev jx_V : Type := Int32 ⊕ (Int64 ⊕ (Nat × Nat))
abbrev jv_i (x : Int32) : jx_V := .inl x
abbrev jv_l (x : Int64) : jx_V := .inr (.inl x)
abbrev jv_r (k i : Nat) : jx_V := .inr (.inr (k, i))
/-- ints by kind, instance, place; longs; references that are set; how many cells there are -/
abbrev jx_H : Type := (Nat → Nat → Nat → Int32) × (Nat → Nat → Nat → Int64) × (Nat → Nat → Nat → Nat) × Nat
def jh_I (h : jx_H) (k i : Nat) : Nat → Int32 := h.1 k i
def jh_L (h : jx_H) (k i : Nat) : Nat → Int64 := h.2.1 k i
def jh_M (h : jx_H) (k i : Nat) : Nat → Nat := h.2.2.1 k i
def jh_n (h : jx_H) : Nat := h.2.2.2
def ju_I (h : jx_H) (k i : Nat) (f : Nat → Int32) : jx_H := (fun a b => if a = k ∧ b = i then f else h.1 a b, h.2)
def ju_L (h : jx_H) (k i : Nat) (f : Nat → Int64) : jx_H := (h.1, fun a b => if a = k ∧ b = i then f else h.2.1 a b, h.2.2)
def ju_M (h : jx_H) (k i : Nat) (f : Nat → Nat) : jx_H := (h.1, h.2.1, fun a b => if a = k ∧ b = i then f else h.2.2.1 a b, h.2.2.2)
def ju_n (h : jx_H) (n : Nat) : jx_H := (h.1, h.2.1, h.2.2.1, n)
/-- where the cells begin; the classes; the array classes; String constants and their bytes; a static reference -/
abbrev jx_E : Type := Nat × va_G × (Nat → ClassId) × (Nat → Nat) × (Nat → Nat) × Option Nat
def jx_ix (sd k i : Nat) : Nat := (jx_cells sd).idxOf (k, i)
def jx_cv (sd : Nat) (g : jx_E) : jx_V → Value
  | .inl x => .int x
  | .inr (.inl x) => .long x
  | .inr (.inr (k, i)) => if k = 12 then .ref (g.2.2.2.1 i) else if k = 13 then .ref (g.2.2.2.2.1 i) else if k = 14 then va_rf g.2.2.2.2.2 else .ref (g.1 + jx_ix sd k i)
/-- a reference's cell is there -/
def jx_lr (sd n k i : Nat) : Prop := (k = 12 ∧ i < 2) ∨ (k = 13 ∧ i < 2) ∨ k = 14 ∨ ∃ q, q < n ∧ (jx_cells sd)[q]? = some (k, i)
def jx_lv (sd n : Nat) : jx_V → Prop
  | .inr (.inr (k, i)) => jx_lr sd n k i
  | _ => True
def jx_vs (sd n : Nat) : List jx_V → Prop
  | [] => True
  | v :: l => jx_lv sd n v ∧ jx_vs sd n l
def jx_vl (sd n : Nat) : List (Option jx_V) → Prop
  | [] => True
  | none :: l => jx_vl sd n l
  | some v :: l => jx_lv sd n v ∧ jx_vl sd n l
def jx_fi (k f : Nat) : Nat × Nat × (Nat → Nat → Nat) := (jx_ft.getD k []).getD f (9, 0, fun _ _ => 0)
def jx_rg (k : Nat) : Nat × (Nat → Nat → Nat) := (jx_rt.lookup k).getD (0, fun _ _ => 0)
def jx_so (k : Nat) : Nat × Nat × Nat := jx_kd.getD k (9, 0, 0)
def jx_fv (sd : Nat) (g : jx_E) (h : jx_H) (k i f : Nat) : Value :=
  if (jx_fi k f).1 = 3 then .long (jh_L h k i f)
  else if (jx_fi k f).1 = 4 then (if jh_M h k i f = 0 then .null else .ref (g.1 + jx_ix sd (jx_fi k f).2.1 ((jx_fi k f).2.2 i 0)))
  else if (jx_fi k f).1 = 5 then (if jh_M h k i f = 0 then .null else .ref (g.1 + jx_ix sd (jx_fi k f).2.1 (jh_M h k i f - 1)))
  else .int (jh_I h k i f)
def jx_rv (sd : Nat) (g : jx_E) (h : jx_H) (k i j : Nat) : Option Nat := if jh_M h k i j = 0 then none else some (g.1 + jx_ix sd (jx_rg k).1 ((jx_rg k).2 i j))
def jx_en (sd : Nat) (g : jx_E) (h : jx_H) (k i : Nat) : va_E :=
  if (jx_so k).1 = 0 then .inr ((jx_so k).2.1, (List.range (jx_so k).2.2).map (jx_fv sd g h k i))
  else if (jx_so k).1 = 4 then .inl (g.2.2.1 4, (jx_so k).2.2, .inr (.inl (jh_L h k i)))
  else if (jx_so k).1 < 4 then .inl (g.2.2.1 (jx_so k).1, (jx_so k).2.2, .inl (jh_I h k i))
  else .inl (g.2.2.1 (jx_so k).1, (jx_so k).2.2, .inr (.inr (.inr (.inr (jx_rv sd g h k i)))))
def jx_cq (sd q : Nat) : Nat × Nat := (jx_cells sd).getD q (15, 0)
def jx_wd (sd : Nat) (g : jx_E) (h : jx_H) : va_W := (List.range (jh_n h)).map (fun q => (g.1 + q, jx_en sd g h (jx_cq sd q).1 (jx_cq sd q).2))
/-- what a set reference leads to is there; once all is made, all final ones are set -/
def jx_vh (sd : Nat) (al : Bool) (h : jx_H) : Prop := ∀ (q k i : Nat), q < jh_n h → (jx_cells sd)[q]? = some (k, i) →
  (∀ f, f < (jx_so k).2.2 → (jx_fi k f).1 = 4 → (jh_M h k i f ≠ 0 → jx_lr sd (jh_n h) (jx_fi k f).2.1 ((jx_fi k f).2.2 i 0)) ∧ (al = false → jh_M h k i f ≠ 0)) ∧
  (∀ f, f < (jx_so k).2.2 → (jx_fi k f).1 = 5 → jh_M h k i f ≠ 0 → jx_lr sd (jh_n h) (jx_fi k f).2.1 (jh_M h k i f - 1)) ∧
  (4 < (jx_so k).1 → ∀ j, j < (jx_so k).2.2 → (jh_M h k i j ≠ 0 → jx_lr sd (jh_n h) (jx_rg k).1 ((jx_rg k).2 i j)) ∧ (al = false → jh_M h k i j ≠ 0))
def jx_rp (sd : Nat) (al : Bool) (g : jx_E) (h : jx_H) (H : Heap) : Prop :=
  va_P g.2.1 jx_cl (jx_wd sd g h) H ∧ jh_n h ≤ (jx_cells sd).length ∧ (al = true → H.size = g.1 + jh_n h) ∧ (al = false → jh_n h = (jx_cells sd).length) ∧ jx_vh sd al h
def jx_A (sd : Nat) (al : Bool) (g : jx_E) : Nat → Prop := fun q => g.1 ≤ q ∧ (al = true ∨ q < g.1 + (jx_cells sd).length)
def jx_tys (g : jx_E) : List (ClassId × FieldType) := (List.range 8).map (fun s => (g.2.2.1 s, jx_et s))
/-- a method, frames left, cells and slots that it makes, whether it may make any, the side, cells at its start -/
abbrev jx_P : Type := jx_M × Nat × Nat × Nat × Bool × Nat × Nat
abbrev jt_Y (T : jx_P) : jx_M := T.1
abbrev jt_d (T : jx_P) : Nat := T.2.1
abbrev jt_mc (T : jx_P) : Nat := T.2.2.1
abbrev jt_ms (T : jx_P) : Nat := T.2.2.2.1
abbrev jt_al (T : jx_P) : Bool := T.2.2.2.2.1
abbrev jt_sd (T : jx_P) : Nat := T.2.2.2.2.2.1
abbrev jt_n0 (T : jx_P) : Nat := T.2.2.2.2.2.2
abbrev jm_k (Y : jx_M) : List jx_I := Y.2.2.2.2.2.2.2
abbrev jm_q (Y : jx_M) : List Nat := Y.2.2.2.2.2.2.1
def jx_rm (d mc ms : Nat) : Room := { frames := d, cells := mc, slots := ms, locals := 60 * d + 60 }
def jx_lenJ : List Nat := [140, 11]
def jx_bytJ : List (List Int32) := [[109, 111, 110, 116, 104, 32, 100, 97, 121, 115, 32, 103, 101, 116, 115, 32, 111, 119, 101, 115, 32, 100, 114, 105, 102, 116, 32, 121, 101, 97, 114, 32, 104, 97, 118, 101, 32, 102, 114, 111, 109, 32, 116, 111, 32, 112, 101, 114, 115, 111, 110, 32, 118, 111, 116, 101, 115, 32, 119, 105, 115, 104, 32, 100, 117, 101, 32, 98, 121, 32, 112, 97, 121, 115, 32, 111, 110, 32, 111, 102, 32, 108, 97, 116, 101, 32, 115, 117, 110, 32, 97, 110, 100, 32, 108, 97, 119, 32, 99, 111, 117, 110, 116, 32, 109, 111, 115, 116, 32, 109, 105, 100, 100, 108, 101, 32, 109, 101, 97, 110, 32, 119, 101, 101, 107, 32, 98, 114, 111, 107, 101, 110, 32, 111, 114, 32, 110, 111, 116, 32], [59, 40, 41, 60, 62, 61, 43, 45, 42, 47, 37]]
def jx_ownJ (i : Nat) : String := if i = 0 then "JuneVote$Tape" else "JuneVote$Tape"
def jx_idxJ (i : Nat) : Nat := if i = 0 then 29 else 74
def jx_txJ (i : Nat) : String := if i = 0 then "month days gets owes drift year have from to person votes wish due by pays on of late sun and law count most middle mean week broken or not " else ";()<>=+-*/%"
/-- what else a walk needs of the machine: String constants, statics, links to nest mates, classes of arrays of references -/
def jx_ex (A : Nat → Prop) (g : jx_E) (s : State) : Prop :=
  vk_S 2 jx_lenJ jx_bytJ g.2.2.2.1 g.2.2.2.2.1 A s s.heap ∧ (∀ i, i < 2 → vk_R (jx_ownJ i) (jx_idxJ i) (jx_txJ i) (g.2.2.2.1 i) s) ∧
  va_Z "java/lang/String" "COMPACT_STRINGS" "Z" (.int 1) A s s.heap ∧ va_Z "jdk/internal/util/Preconditions" "SIOOBE_FORMATTER" "Ljava/util/function/BiFunction;" (va_rf g.2.2.2.2.2) A s s.heap ∧
  va_Nw (.methodLinkNest "JuneVote$Poll" 127 ⟨"JuneVote", "isLength", "(I)Z"⟩ "JuneVote") s ∧ va_Nw (.methodLinkNest "JuneVote$Sway" 91 ⟨"JuneVote", "isLength", "(I)Z"⟩ "JuneVote") s ∧
  va_AO RX2 s ∧ va_AO RX1 s ∧ va_Nw (.arrayOver (.array .int)) s
def jx_cx (T : jx_P) (g : jx_E) (p : Program) (R : Room) (s : State) (m : MethodId) (args : Array Value) (meth : Method) (c : Code) : Prop :=
  p.tables.exec = Jvm.exec ∧ c.code = (jt_Y T).2.1 ∧ c.maxLocals = (jt_Y T).2.2.1 ∧ meth.sig.returnType = (jt_Y T).2.2.2.1 ∧ s.vm.findClass (jt_Y T).1.cls = some m.cls ∧ (∀ w ∈ jx_ws, w.before args s = true) ∧
  meth.locks = false ∧ meth.name = (jt_Y T).1.name ∧ va_K g.2.1 jx_cl (jx_tys g) s ∧ jx_ex (jx_A (jt_sd T) (jt_al T) g) g s ∧ g.1 ≤ s.heap.size ∧ R = jx_rm (jt_d T) (jt_mc T) (jt_ms T) ∧ jx_ck (jt_Y T) = true ∧ ∀ w ∈ jx_al (jt_Y T), w ∈ jx_ws
def jx_as (cv : jx_V → Value) : List (Option jx_V) → Nat → List (Nat × Value)
  | [], _ => []
  | none :: l, i => jx_as cv l (i + 1)
  | some v :: l, i => (i, cv v) :: jx_as cv l (i + 1)
/-- where a method gives a whole number or a truth, an int comes -/
def jx_tr (o : Option FieldType) (r : Option jx_V) : Prop := (o = some .int ∨ o = some .boolean) → ∃ x, r = some (jv_i x)
theorem jx_trn {o o' : Option FieldType} {r : Option jx_V} (h : o = o') (h1 : o' ≠ some .int) (h2 : o' ≠ some .boolean) : jx_tr o r := fun z => by
  subst h
  exact z.elim (fun y => absurd y h1) (fun y => absurd y h2)
def jx_Qc (T : jx_P) (g : jx_E) (Q : Option jx_V → jx_H → Prop) : Array Value → State → Outcome → State → Prop := fun _ st oc t =>
  (∃ (r : Option jx_V) (h : jx_H), oc = .returned (r.map (jx_cv (jt_sd T) g)) ∧ Q r h ∧ jx_rp (jt_sd T) (jt_al T) g h t.heap ∧ (∀ v, r = some v → jx_lv (jt_sd T) (jh_n h) v) ∧ jt_n0 T ≤ jh_n h ∧ jx_tr (jt_Y T).2.2.2.1 r) ∧ va_F (jx_A (jt_sd T) (jt_al T) g) st t
/-- THE JUDGEMENT: from instruction n of T's method, with these locals, this stack, this heap, made so far kc cells of ks slots, the method comes to an end with Q -/
def jx_W (T : jx_P) (Q : Option jx_V → jx_H → Prop) (kc ks n : Nat) (ls : List (Option jx_V)) (st : List jx_V) (h : jx_H) : Prop :=
  ∀ (g : jx_E) (p : Program) (l : Launch) (e : Env) (R : Room) (s : State) (m : MethodId) (args : Array Value) (below : List Frame) (meth : Method) (c : Code), jx_cx T g p R s m args meth c →
    ∀ (H : Heap) (locs : List Loc) (lr : Array Slot) (pc : Nat), jx_rp (jt_sd T) (jt_al T) g h H → va_S (jx_A (jt_sd T) (jt_al T) g) s.heap H locs → lv_has lr (jt_Y T).2.2.1 (jx_as (jx_cv (jt_sd T) g) ls 0) ∧ ls.length = (jt_Y T).2.2.1 → jx_vl (jt_sd T) (jh_n h) ls → jx_vs (jt_sd T) (jh_n h) st → jt_n0 T ≤ jh_n h → jx_at (jm_q (jt_Y T)) n = some pc →
    W p l e R s m args below meth c H locs kc ks (MQ below (jx_Qc T g Q) args s (jt_mc T) (jt_ms T) (jx_A (jt_sd T) (jt_al T) g)) (F0 m pc lr (st.map (jx_cv (jt_sd T) g)))
theorem jx_step {Y : jx_M} {n pc : Nat} {i : jx_I} (hck : jx_ck Y = true) (hc : jx_at (jm_k Y) n = some i) (hi : (i.1 == 0) = false) (hp : jx_at (jm_q Y) n = some pc) :
    decode Y.2.1 pc = .ok (jx_re i) ∧ (jx_end i = false → jx_at (jm_q Y) (n + 1) = some (pc + (jx_re i).2)) ∧ jx_sd (jm_q Y) pc i = true := by
  have hlen : ∀ {α : Type} {l : List α} {n : Nat} {x : α}, jx_at l n = some x → n < l.length := by
    intro α l
    induction l with
    | nil => intro n x h; cases n <;> cases h
    | cons a l ih =>
      intro n x h
      cases n with
      | zero => simp
      | succ n => have := ih (n := n) h; simp; omega
  simp only [jx_ck, Bool.and_eq_true] at hck
  have h1 := List.all_eq_true.mp hck.1.1.1.1.1.1 n (List.mem_range.mpr (hlen hc))
  unfold jx_ok1 at h1
  rw [hc, hp] at h1
  dsimp only at h1
  rw [hi, Bool.false_or] at h1
  simp only [Bool.and_eq_true, Bool.or_eq_true, decide_eq_true_eq] at h1
  refine ⟨h1.1.1, fun he => ?_, h1.2⟩
  rcases h1.1.2 with h | h
  · rw [he] at h; cases h
  · exact h
theorem jx_word {Y : jx_M} {n : Nat} {i : jx_I} {w : Cond} (hal : ∀ w ∈ jx_al Y, w ∈ jx_ws) (hc : jx_at (jm_k Y) n = some i) (hw : w ∈ jx_nd Y.1.cls i) : w ∈ jx_ws :=
  hal w (List.mem_append_right _ (List.mem_flatMap.mpr ⟨i, jx_at_mem hc, hw⟩))
theorem jx_target {q : List Nat} {pc b : Nat} {z : Int} (h : jx_to q pc b z = true) : ∃ t, jx_at q b = some t ∧ (pc : Int) + z = (t : Int) := by
  unfold jx_to at h
  cases hb : jx_at q b with
  | none => rw [hb] at h; cases h
  | some t => rw [hb] at h; exact ⟨t, rfl, of_decide_eq_true h⟩
theorem jx_as_mem {cv : jx_V → Value} : ∀ {ls : List (Option jx_V)} {k : Nat} {x : Nat × Value}, x ∈ jx_as cv ls k ↔ ∃ j v, jx_at ls j = some (some v) ∧ x = (k + j, cv v) := by
  intro ls
  induction ls with
  | nil => intro k x; constructor
           · intro h; cases h
           · rintro ⟨j, v, h, -⟩; cases j <;> cases h
  | cons o ls ih =>
    intro k x
    cases o with
    | none =>
      show x ∈ jx_as cv ls (k + 1) ↔ _
      rw [ih]
      constructor
      · rintro ⟨j, v, h, rfl⟩; exact ⟨j + 1, v, h, by congr 1; omega⟩
      · rintro ⟨j, v, h, rfl⟩
        cases j with
        | zero => cases h
        | succ j => exact ⟨j, v, h, by congr 1; omega⟩
    | some w =>
      show x ∈ (k, cv w) :: jx_as cv ls (k + 1) ↔ _
      rw [List.mem_cons, ih]
      constructor
      · rintro (rfl | ⟨j, v, h, rfl⟩)
        · exact ⟨0, w, rfl, rfl⟩
        · exact ⟨j + 1, v, h, by congr 1; omega⟩
      · rintro ⟨j, v, h, rfl⟩
        cases j with
        | zero => cases h; exact Or.inl rfl
        | succ j => exact Or.inr ⟨j, v, h, by congr 1; omega⟩
theorem jx_ld {cv : jx_V → Value} {lr : Array Slot} {nL j : Nat} {ls : List (Option jx_V)} {v : jx_V} (L : lv_has lr nL (jx_as cv ls 0)) (h : jx_at ls j = some (some v)) : lr[j]? = some (.val (cv v)) :=
  L.2.2 (j, cv v) (jx_as_mem.mpr ⟨j, v, h, by rw [Nat.zero_add]⟩)
theorem jx_vl_at {sd n : Nat} : ∀ {ls : List (Option jx_V)} {j : Nat} {v : jx_V}, jx_vl sd n ls → jx_at ls j = some (some v) → jx_lv sd n v
  | none :: l, 0, v, _, h => by cases h
  | none :: l, j + 1, v, hv, h => jx_vl_at (j := j) (show jx_vl sd n l from hv) h
  | some w :: l, 0, v, hv, h => by cases h; exact hv.1
  | some w :: l, j + 1, v, hv, h => jx_vl_at (j := j) hv.2 h
  | [], j, v, _, h => by cases j <;> cases h
/-- a store into the locals -/
def jx_s1 : List (Option jx_V) → Nat → Option jx_V → List (Option jx_V)
  | [], _, _ => []
  | _ :: l, 0, v => v :: l
  | o :: l, n + 1, v => o :: jx_s1 l n v
theorem jx_s1_len : ∀ (ls : List (Option jx_V)) (a : Nat) (v : Option jx_V), (jx_s1 ls a v).length = ls.length
  | [], _, _ => rfl
  | _ :: _, 0, _ => rfl
  | _ :: l, n + 1, v => by simp [jx_s1, jx_s1_len l n v]
theorem jx_s1_at : ∀ {ls : List (Option jx_V)} {a j : Nat} {v : Option jx_V}, jx_at (jx_s1 ls a v) j = if j = a then (if a < ls.length then some v else none) else jx_at ls j
  | [], a, j, v => by
    have : jx_at ([] : List (Option jx_V)) j = none := by cases j <;> rfl
    show jx_at ([] : List (Option jx_V)) j = _
    rw [this]; split <;> simp
  | o :: l, 0, 0, v => by simp [jx_s1, jx_at]
  | o :: l, 0, j + 1, v => by simp [jx_s1, jx_at]
  | o :: l, a + 1, 0, v => by simp [jx_s1, jx_at]
  | o :: l, a + 1, j + 1, v => by
    show jx_at (jx_s1 l a v) j = _
    rw [jx_s1_at]
    simp [jx_at]
theorem jx_vl_iff {sd n : Nat} : ∀ {ls : List (Option jx_V)}, jx_vl sd n ls ↔ ∀ j v, jx_at ls j = some (some v) → jx_lv sd n v := by
  intro ls
  constructor
  · intro h j v hj; exact jx_vl_at h hj
  · intro h
    induction ls with
    | nil => trivial
    | cons o l ih =>
      cases o with
      | none => exact ih (fun j v hj => h (j + 1) v hj)
      | some w => exact ⟨h 0 w rfl, ih (fun j v hj => h (j + 1) v hj)⟩
/-- no long stands at the place before -/
def jx_np (ls : List (Option jx_V)) (a : Nat) : Bool := match a with
  | 0 => true
  | a + 1 => match jx_at ls a with | some (some (.inr (.inl _))) => false | _ => true
theorem jx_cat (sd : Nat) (g : jx_E) (v : jx_V) : (jx_cv sd g v).category = 2 ↔ ∃ x, v = jv_l x := by
  match v with
  | .inl x => simp [jx_cv, Value.category]
  | .inr (.inl x) => simp [jx_cv, Value.category]
  | .inr (.inr (k, i)) =>
    have h : (jx_cv sd g (.inr (.inr (k, i)))).category = 1 := by
      show (if k = 12 then Value.ref _ else if k = 13 then Value.ref _ else if k = 14 then va_rf _ else Value.ref _).category = 1
      split
      · rfl
      · split
        · rfl
        · split
          · unfold va_rf; split <;> rfl
          · rfl
    rw [h]; simp
theorem jx_store1 {sd : Nat} {g : jx_E} {lr : Array Slot} {nL a : Nat} {ls : List (Option jx_V)} {v : jx_V} (hn : jx_np ls a = true)
    (hl : lv_has lr nL ((a, jx_cv sd g v) :: (jx_as (jx_cv sd g) ls 0).filter (fun q => !(q.1 == a) && !(q.1 + 1 == a && q.2.category == 2)))) : lv_has lr nL (jx_as (jx_cv sd g) (jx_s1 ls a (some v)) 0) := by
  refine ⟨hl.1, hl.2.1, fun q hq => hl.2.2 q ?_⟩
  obtain ⟨j, w, hj, rfl⟩ := jx_as_mem.mp hq
  rw [jx_s1_at] at hj
  rw [Nat.zero_add]
  by_cases e : j = a
  · subst e
    rw [if_pos rfl] at hj
    split at hj
    · cases hj; exact List.mem_cons_self
    · cases hj
  · rw [if_neg e] at hj
    refine List.mem_cons_of_mem _ (List.mem_filter.mpr ⟨jx_as_mem.mpr ⟨j, w, hj, by rw [Nat.zero_add]⟩, ?_⟩)
    simp only [Bool.and_eq_true, Bool.not_eq_true', beq_eq_false_iff_ne, ne_eq, e, not_false_eq_true, true_and, Bool.and_eq_false_iff]
    by_cases e2 : j + 1 = a
    · subst e2
      right
      intro h2
      obtain ⟨x, rfl⟩ := (jx_cat sd g w).mp h2
      have hn : (match jx_at ls j with | some (some (.inr (.inl _))) => false | _ => true) = true := hn
      rw [hj] at hn
      cases hn
    · exact Or.inl e2
theorem jx_store2 {sd : Nat} {g : jx_E} {lr : Array Slot} {nL a : Nat} {ls : List (Option jx_V)} {v : jx_V} (hn : jx_np ls a = true)
    (hl : lv_has lr nL ((a, jx_cv sd g v) :: (jx_as (jx_cv sd g) ls 0).filter (fun q => !(q.1 == a) && (!(q.1 == a + 1) && !(q.1 + 1 == a && q.2.category == 2))))) : lv_has lr nL (jx_as (jx_cv sd g) (jx_s1 (jx_s1 ls (a + 1) none) a (some v)) 0) := by
  refine ⟨hl.1, hl.2.1, fun q hq => hl.2.2 q ?_⟩
  obtain ⟨j, w, hj, rfl⟩ := jx_as_mem.mp hq
  rw [jx_s1_at] at hj
  rw [Nat.zero_add]
  by_cases e : j = a
  · subst e
    rw [if_pos rfl] at hj
    split at hj
    · cases hj; exact List.mem_cons_self
    · cases hj
  · rw [if_neg e, jx_s1_at] at hj
    by_cases e3 : j = a + 1
    · rw [if_pos e3] at hj
      split at hj <;> cases hj
    · rw [if_neg e3] at hj
      refine List.mem_cons_of_mem _ (List.mem_filter.mpr ⟨jx_as_mem.mpr ⟨j, w, hj, by rw [Nat.zero_add]⟩, ?_⟩)
      simp only [Bool.and_eq_true, Bool.not_eq_true', beq_eq_false_iff_ne, ne_eq, e, e3, not_false_eq_true, true_and, and_true, Bool.and_eq_false_iff]
      by_cases e2 : j + 1 = a
      · subst e2
        right
        intro h2
        obtain ⟨x, rfl⟩ := (jx_cat sd g w).mp h2
        have hn : (match jx_at ls j with | some (some (.inr (.inl _))) => false | _ => true) = true := hn
        rw [hj] at hn
        cases hn
      · exact Or.inl e2
theorem jx_vl_s1 {sd n a : Nat} {ls : List (Option jx_V)} {v : jx_V} (h : jx_vl sd n ls) (hv : jx_lv sd n v) : jx_vl sd n (jx_s1 ls a (some v)) := by
  rw [jx_vl_iff] at h ⊢
  intro j w hj
  rw [jx_s1_at] at hj
  split at hj
  · split at hj
    · cases hj; exact hv
    · cases hj
  · exact h j w hj
theorem jx_vl_s1n {sd n a : Nat} {ls : List (Option jx_V)} (h : jx_vl sd n ls) : jx_vl sd n (jx_s1 ls a none) := by
  rw [jx_vl_iff] at h ⊢
  intro j w hj
  rw [jx_s1_at] at hj
  split at hj
  · split at hj <;> cases hj
  · exact h j w hj
theorem jg_II (h : jx_H) (k i : Nat) (f : Nat → Int32) : jh_I (ju_I h k i f) k i = f := if_pos ⟨rfl, rfl⟩
theorem jg_LL (h : jx_H) (k i : Nat) (f : Nat → Int64) : jh_L (ju_L h k i f) k i = f := if_pos ⟨rfl, rfl⟩
theorem jg_MM (h : jx_H) (k i : Nat) (f : Nat → Nat) : jh_M (ju_M h k i f) k i = f := if_pos ⟨rfl, rfl⟩
theorem jg_II' (h : jx_H) (k i a b : Nat) (f : Nat → Int32) : jh_I (ju_I h k i f) a b = if a = k ∧ b = i then f else jh_I h a b := rfl
theorem jg_LL' (h : jx_H) (k i a b : Nat) (f : Nat → Int64) : jh_L (ju_L h k i f) a b = if a = k ∧ b = i then f else jh_L h a b := rfl
theorem jg_MM' (h : jx_H) (k i a b : Nat) (f : Nat → Nat) : jh_M (ju_M h k i f) a b = if a = k ∧ b = i then f else jh_M h a b := rfl
theorem jg_IL (h : jx_H) (k i a b : Nat) (f : Nat → Int64) : jh_I (ju_L h k i f) a b = jh_I h a b := rfl
theorem jg_IM (h : jx_H) (k i a b : Nat) (f : Nat → Nat) : jh_I (ju_M h k i f) a b = jh_I h a b := rfl
theorem jg_LI (h : jx_H) (k i a b : Nat) (f : Nat → Int32) : jh_L (ju_I h k i f) a b = jh_L h a b := rfl
theorem jg_LM (h : jx_H) (k i a b : Nat) (f : Nat → Nat) : jh_L (ju_M h k i f) a b = jh_L h a b := rfl
theorem jg_MI (h : jx_H) (k i a b : Nat) (f : Nat → Int32) : jh_M (ju_I h k i f) a b = jh_M h a b := rfl
theorem jg_ML (h : jx_H) (k i a b : Nat) (f : Nat → Int64) : jh_M (ju_L h k i f) a b = jh_M h a b := rfl
theorem jg_us (f : Nat → Int32) (k : Nat) (x : Int32) : upd f k x k = x := if_pos rfl
theorem jg_un {f : Nat → Int32} {k j : Nat} {x : Int32} (h : j ≠ k) : upd f k x j = f j := if_neg h
theorem jg_Lus (f : Nat → Int64) (k : Nat) (x : Int64) : vp_updL f k x k = x := if_pos rfl
theorem jg_Lun {f : Nat → Int64} {k j : Nat} {x : Int64} (h : j ≠ k) : vp_updL f k x j = f j := if_neg h
theorem jg_Mus (f : Nat → Nat) (k : Nat) (x : Nat) : va_up f k x k = x := if_pos rfl
theorem jg_Mun {f : Nat → Nat} {k j : Nat} {x : Nat} (h : j ≠ k) : va_up f k x j = f j := if_neg h
def jx_same (h h' : jx_H) (k i : Nat) : Prop := jh_I h' k i = jh_I h k i ∧ jh_L h' k i = jh_L h k i ∧ jh_M h' k i = jh_M h k i
theorem jx_same_I {h : jx_H} {k i a b : Nat} {f : Nat → Int32} (hn : ¬ (a = k ∧ b = i)) : jx_same h (ju_I h k i f) a b := ⟨if_neg hn, rfl, rfl⟩
theorem jx_same_L {h : jx_H} {k i a b : Nat} {f : Nat → Int64} (hn : ¬ (a = k ∧ b = i)) : jx_same h (ju_L h k i f) a b := ⟨rfl, if_neg hn, rfl⟩
theorem jx_same_M {h : jx_H} {k i a b : Nat} {f : Nat → Nat} (hn : ¬ (a = k ∧ b = i)) : jx_same h (ju_M h k i f) a b := ⟨rfl, rfl, if_neg hn⟩
theorem jx_fv_congr {sd : Nat} {g : jx_E} {h h' : jx_H} {k i j : Nat} (h1 : jh_I h' k i j = jh_I h k i j) (h2 : jh_L h' k i j = jh_L h k i j) (h3 : jh_M h' k i j = jh_M h k i j) : jx_fv sd g h' k i j = jx_fv sd g h k i j := by
  unfold jx_fv
  rw [h1, h2, h3]
