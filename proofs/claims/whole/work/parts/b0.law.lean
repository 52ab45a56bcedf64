/-! THE CLAIM OUT OF ONE WALK OF THE LAW'S BODY. Your part is whole_start (and what it stands on); all else here is the same for every law, but numbers. -/
def R_law : String := "JuneVoteLaw"
def lw_P (b : Addr) (xs : List Int32) (args : Array Value) (s : State) : Prop := args = #[.ref b] ∧ s.IntsAt b xs ∧ xs.length ≤ 3072 ∧ (Jvm.Cond.and given_1 narrow_1).before args s = true
def lw_Q (_ : Array Value) (s : State) (o : Outcome) (t : State) : Prop := o = .returned (some (.int 1)) ∧ Framed s o t [] 600000 7302250
def lw_Z (below : List Frame) (a : Array Value) (s : State) : State → Prop := fun t => ∃ o, t.status = .running ∧ Ended t below o ∧ lw_Q a s o t
/-- the law's own end, with 1 on the stack, nothing written that was there before, its room as the claim has it -/
theorem lw_ret {p : Program} {l : Launch} {e : Env} {s : State} {m : MethodId} {below : List Frame} {meth : Method} {c : Code} {b : Nat} (hx : p.tables.exec = Jvm.exec) (hb : c.code = code) (hr : meth.sig.returnType = ret) (hlocks : meth.locks = false) {pc : Nat} {H : Heap} {ls : Array Slot} (hdg : decode code pc = .ok (.ireturn, 1)) : W p l e room_1 s m #[Value.ref b] below meth c H [] 600000 7302250 (lw_Z below #[Value.ref b] s) (F0 m pc ls [.int 1]) := by
  intro T hT X
  obtain ⟨fs, hret, hrun, hended, hW, hframe⟩ := X.leave (v := some (.int 1)) (hlocks := hlocks) (fun h => by rw [hr] at h; cases h)
  have hmeth' : T.vm.method? m = some meth := X.method'
  refine ⟨T.setFrames fs, ?_, .returned (some (.int 1)), hrun, hended, rfl, ⟨_, rfl⟩, hW, hframe⟩
  jvm_step X.here [X.here.top, hx, hb, hdg, hmeth', hr, ret, narrow_b1]
  (try refine ⟨rfl, ?_⟩); (try refine ⟨rfl, ?_⟩)
  first | (intro acts; rw [hret _ acts rfl rfl rfl]) | rw [hret _ _ rfl rfl rfl]
  exact Steps.refl _
/-- what holds at the law's entry: the machine, the code, the tables' words (any of lw_tbl by 'hts w (by decide +kernel)'), the script of L ints xs at the cell b, what the Statement gives of the start (any of its parts by flat_of_before) -/
def lw_At (p : Program) (s : State) (m : MethodId) (meth : Method) (c : Code) (b L : Nat) (xs : Nat → Int32) : Prop :=
  p.tables.exec = Jvm.exec ∧ c.code = code ∧ meth.sig.returnType = ret ∧ c.maxLocals = 4 ∧ s.vm.findClass R_law = some m.cls ∧ (∀ w ∈ lw_tbl, w.before #[Value.ref b] s = true) ∧ va_X b L xs s s.heap ∧ b < s.heap.size ∧ meth.locks = false ∧ (Jvm.Cond.and given_1 narrow_1).before #[Value.ref b] s = true
/-! ===== the law: two worlds, one behind the other ===== -/
abbrev jlw_G : Type := va_G × (Nat → ClassId) × (Nat → Nat) × (Nat → Nat) × Option Nat
abbrev jlw_A (s : State) : Nat → Prop := fun q => s.heap.size ≤ q
/-- what holds of the law's machine, and what the walks of the two worlds need of it -/
def jlw_C (p : Program) (s : State) (m : MethodId) (meth : Method) (c : Code) (b L : Nat) (xs : Nat → Int32) (G : jlw_G) : Prop :=
  lw_At p s m meth c b L xs ∧ va_K G.1 jx_cl (jx_tys (0, G)) s ∧ jx_ex (jlw_A s) (0, G) s ∧ ∀ w ∈ jx_ws, w.before #[Value.ref b] s = true
theorem jlw_O {E : String} {t : Nat} {A A' : Nat → Prop} {U : State} {H : Heap} (hA : ∀ q, A' q → A q) (h : va_O E t A U H) : va_O E t A' U H := by
  obtain ⟨cell, h1, h2, h3, h4⟩ := h
  exact ⟨cell, h1, h2, h3, fun z => h4 (hA _ z)⟩
theorem jlw_OF {o n d : String} {v : Value} {t : Nat} {A A' : Nat → Prop} {U : State} {H : Heap} (hA : ∀ q, A' q → A q) (h : va_OF o n d v t A U H) : va_OF o n d v t A' U H := by
  obtain ⟨cf, k, i, f, cell, h1, h2, h3, h4, h5, h6⟩ := h
  exact ⟨cf, k, i, f, cell, h1, h2, h3, h4, h5, fun z => h6 (hA _ z)⟩
theorem jlw_T {ty : FieldType} {t N : Nat} {f : Nat → Value} {A A' : Nat → Prop} {U : State} {H : Heap} (hA : ∀ q, A' q → A q) (h : va_T ty t N f A U H) : va_T ty t N f A' U H := by
  obtain ⟨cell, h1, h2, h3, h4, h5, h6, h7⟩ := h
  exact ⟨cell, h1, h2, h3, h4, h5, h6, fun z => h7 (hA _ z)⟩
theorem jlw_Z {C n d : String} {v : Value} {A A' : Nat → Prop} {U : State} {H : Heap} (hA : ∀ q, A' q → A q) (h : va_Z C n d v A U H) : va_Z C n d v A' U H := by
  obtain ⟨cf, kf, fi, f, a, cell, h1, h2, h3, h4, h5, h6, h7, h8⟩ := h
  exact ⟨cf, kf, fi, f, a, cell, h1, h2, h3, h4, h5, h6, h7, fun z => h8 (hA _ z)⟩
/-- what a walk needs, over fewer free cells, and whatever the base -/
theorem jlw_ex {A A' : Nat → Prop} {x : Nat} {G : jlw_G} {U : State} (x' : Nat) (hA : ∀ q, A' q → A q) (h : jx_ex A (x, G) U) : jx_ex A' (x', G) U := by
  obtain ⟨h1, h2, h3, h4, h5⟩ := h
  exact ⟨⟨fun i hi => ⟨jlw_O hA (h1.1 i hi).1, jlw_OF hA (h1.1 i hi).2.1, jlw_OF hA (h1.1 i hi).2.2.1, jlw_T hA (h1.1 i hi).2.2.2⟩, h1.2⟩, h2, jlw_Z hA h3, jlw_Z hA h4, h5⟩
theorem jlw_vs {sd n : Nat} : ∀ As : List Int32, jx_vs sd n (As.map jv_i)
  | [] => trivial
  | _ :: l => ⟨trivial, jlw_vs l⟩
theorem jlw_cv {sd : Nat} {g : jx_E} : ∀ As : List Int32, (As.map jv_i).map (jx_cv sd g) = As.map Value.int
  | [] => rfl
  | x :: l => congrArg (Value.int x :: ·) (jlw_cv l)
/-- a world stays where its cells stay -/
theorem jlw_keep {sd : Nat} {al : Bool} {g : jx_E} {h : jx_H} {H H1 : Heap} (Rp : jx_rp sd al g h H) (hz : al = true → H1.size = H.size) (hq : ∀ q, g.1 ≤ q → q < g.1 + jh_n h → H1[q]? = H[q]?) : jx_rp sd al g h H1 := by
  obtain ⟨r1, r2, r3, r4, r5⟩ := Rp
  refine ⟨fun j x hj => ?_, r2, fun z => (hz z).trans (r3 z), r4, r5⟩
  have hjl : j < jh_n h := by have := (List.getElem?_eq_some_iff.mp hj).1; rw [jx_wd_len] at this; exact this
  have hx : x.1 = g.1 + j := by
    have := (List.getElem?_eq_some_iff.mp hj).2
    rw [← this]
    simp [jx_wd]
  exact (r1 j x hj).kept (by rw [hx]; exact hq _ (Nat.le_add_right _ _) (by omega))
section JL
variable {p : Program} {l : Launch} {e : Env} {s : State} {m : MethodId} {below : List Frame} {meth : Method} {c : Code} {b L : Nat} {xs : Nat → Int32} {G : jlw_G} {H : Heap} {locs : List Loc} {kc ks pc z : Nat} {lr : Array Slot} {Z : State → Prop} {rest : List Value} {Y' : jx_M} {d sd sO ck bS bO : Nat} {hS hO : jx_H} {Q : Option jx_V → jx_H → Prop}
/-- the law calls one world, the other stays -/
theorem jlw_call {As : List Int32} (C : jlw_C p s m meth c b L xs G) (hlr : lr.size = 4) (hd : decode code pc = .ok (.invokevirtual z, 3)) (hlink : (Cond.methodLink R_law z Y'.1) ∈ lw_tbl) (hf : jx_fa Y') (hkd : Y'.2.2.2.2.2.1 = 0) (hck2 : ck < 12) (hcc : jx_C ck = Y'.1.cls) (hal2 : As.length = Y'.2.2.2.2.1) (hret : Y'.2.2.2.1 = some .int ∨ Y'.2.2.2.1 = some .boolean)
    (hL2 : (jx_ea (jv_r ck 0 :: As.map jv_i)).length ≤ Y'.2.2.1 ∧ Y'.2.2.1 ≤ 41) (hd2 : d ≤ 1000) (hst2 : (rest.map fun v => v.category).sum ≤ 8) (hq0 : (jx_cells sd)[0]? = some (ck, 0)) (hbS : s.heap.size ≤ bS) (hdis : bS + (jx_cells sd).length ≤ bO ∨ bO + (jx_cells sO).length ≤ bS) (hbH : bO + (jx_cells sO).length ≤ H.size) (hkc : kc ≤ 600000) (hks : ks ≤ 7302250)
    (RS : jx_rp sd false (bS, G) hS H) (RO : jx_rp sO false (bO, G) hO H) (S : va_S (jlw_A s) s.heap H locs) (hbH2 : bS ≤ H.size) (hEv : jx_Ev Y' d 0 0 false sd (jv_r ck 0 :: As.map jv_i) hS Q)
    (k : ∀ (x : Int32) (h' : jx_H) (H1 : Heap) (locs1 : List Loc), Q (some (jv_i x)) h' → jx_rp sd false (bS, G) h' H1 → jx_rp sO false (bO, G) hO H1 → va_S (jlw_A s) s.heap H1 locs1 → H.size ≤ H1.size → W p l e room_1 s m #[Value.ref b] below meth c H1 locs1 kc ks Z (F0 m (pc + 3) lr (.int x :: rest))) :
    W p l e room_1 s m #[Value.ref b] below meth c H locs kc ks Z (F0 m pc lr ((As.map Value.int).reverse ++ .ref bS :: rest)) := by
  obtain ⟨⟨hx, hb, hr, hml, hown, htl, hX, hbl, hlk, hgv⟩, hK, hE, hts⟩ := C
  obtain ⟨f1, f2, f3, f4⟩ := jx_ck_facts hf.1
  have hw : ∀ w ∈ jx_mw Y', w.before #[Value.ref b] s = true := fun w hw => hts w (hf.2 w (List.mem_append_left _ hw))
  have hini : (Cond.initialized Y'.1.cls).before #[Value.ref b] s = true := hw _ (List.mem_append_left _ (List.mem_cons_of_mem _ List.mem_cons_self))
  have hn : 0 < jh_n hS := by rw [RS.2.2.2.1 rfl]; exact (List.getElem?_eq_some_iff.mp hq0).1
  have hvas : jx_vs sd (jh_n hS) (jv_r ck 0 :: As.map jv_i) := ⟨Or.inr (Or.inr (Or.inr ⟨0, hn, hq0⟩)), jlw_vs As⟩
  have hM := jx_met (g := (bS, G)) (l := l) hf hvas hL2.1 hEv
  have hcv : jx_cv sd (bS, G) (jv_r ck 0) = .ref bS := jx_cv_of (bS, G) hq0
  have hPm : ∀ U : State, U.heap = H → s.WarmedH U.vm → jx_Pq sd false (bS, G) (jv_r ck 0 :: As.map jv_i) hS (Value.ref bS :: As.map Value.int).toArray U := fun U hU hW =>
    ⟨by rw [List.map_cons, hcv, jlw_cv], by rw [hU]; exact RS, va_K.moved hW.alike hK, jlw_ex bS (fun q z => Nat.le_trans hbS z.1) (jx_ex_moved hE S hU hW), by rw [hU]; exact hbH2⟩
  have hin : (Cond.instanceMethod Y'.1).before #[Value.ref b] s = true := hw _ (List.mem_append_right _ (by rw [hkd]; exact List.mem_cons_self))
  have hsel : (Cond.selects Y'.1.cls Y'.1 Y'.1).before #[Value.ref b] s = true := hw _ (List.mem_append_right _ (by rw [hkd]; exact List.mem_cons_of_mem _ List.mem_cons_self))
  have hroom : (jx_rm d 0 0).frames + 1 ≤ room_1.frames ∧ 8 + (Y'.2.2.1 + 11) + (jx_rm d 0 0).locals ≤ room_1.locals := ⟨by show d + 1 ≤ 2048; omega, by show 8 + (Y'.2.2.1 + 11) + (60 * d + 60) ≤ 84000; omega⟩
  have hrun := va_runV (p := p) (l := l) (e := e) (As := As.map Value.int) (b := bS) (rest := rest) (cells := kc) (slots := ks) (below := below) (locs := locs) (meth := meth) (H := H) ⟨hx, hb, hml, hown, hts⟩ hM ⟨callB_of Y'.2.2.2.2.1 hts (jx_goodIn hf) rfl rfl rfl hini (htl _ hlink) f3 hroom, hin, hsel⟩
    ⟨jx_blind, by rw [← hcc]; exact va_recv hK RS.1 (jx_cl_at ck hck2) (by rw [jx_wd_at hq0 hn, jx_en_obj hck2]; rfl), hPm⟩ (g := F0 m pc lr ((As.map Value.int).reverse ++ .ref bS :: rest)) rfl (by rw [List.length_map]; exact hal2) hlr rfl (by show 2 * 0 + _ ≤ 8; omega) hd ⟨hkc, hks⟩
  intro T0 hT X
  obtain ⟨v, st₀, t, T', Lc, h0, X', hL, e1, e2, ⟨⟨r, h', hv, hq, hRp, hrv, hn0, htr⟩, hz, hk⟩, stp⟩ := hrun T0 hT X
  obtain ⟨x, rfl⟩ := htr hret
  cases hv
  rw [h0] at hz hk
  obtain ⟨t2, a1, b1⟩ := k x h' T'.heap (locs ++ Lc) hq (by rw [e1]; exact hRp)
    (jlw_keep RO (fun y => by cases y) (fun q h1 h2 => by
      rw [e1]
      have h1 : bO ≤ q := h1
      have h2 : q < bO + jh_n hO := h2
      rw [RO.2.2.2.1 rfl] at h2
      refine hk q (by omega) (fun y => ?_)
      have y1 : bS ≤ q := y.1
      have y2 : q < bS + (jx_cells sd).length := y.2.resolve_left (fun u => by cases u)
      omega))
    ⟨Nat.le_trans S.1 (by rw [e1]; exact hz), fun q h1 h2 => by rw [e1, hk q (Nat.lt_of_lt_of_le h1 S.1) (fun y => h2 (Nat.le_trans hbS y.1))]; exact S.2.1 q h1 h2, fun q hq => by
      rcases List.mem_append.mp hq with h | h
      · exact S.2.2 q h
      · exact Nat.le_trans hbS (hL q h).1⟩ (by rw [e1]; exact hz) T' rfl X'
  exact ⟨t2, stp t2 a1, b1⟩
/-- the two worlds in the law's heap -/
def jlw_S (s : State) (G : jlw_G) (hc hm : jx_H) (H : Heap) (locs : List Loc) : Prop := jx_rp 0 false (s.heap.size, G) hc H ∧ jx_rp 1 false (s.heap.size + 128, G) hm H ∧ va_S (jlw_A s) s.heap H locs ∧ s.heap.size + 188 ≤ H.size
theorem jlw_l0 : (jx_cells 0).length = 128 := by decide +kernel
theorem jlw_l1 : (jx_cells 1).length = 60 := by decide +kernel
variable {hc hm : jx_H}
theorem jlw_callC {As : List Int32} (C : jlw_C p s m meth c b L xs G) (hlr : lr.size = 4) (hd : decode code pc = .ok (.invokevirtual z, 3)) (hlink : (Cond.methodLink R_law z Y'.1) ∈ lw_tbl) (hf : jx_fa Y') (hkd : Y'.2.2.2.2.2.1 = 0) (hcc : jx_C 10 = Y'.1.cls) (hal2 : As.length = Y'.2.2.2.2.1) (hret : Y'.2.2.2.1 = some .int ∨ Y'.2.2.2.1 = some .boolean)
    (hL2 : (Nat.ble (jx_ea (jv_r 10 0 :: As.map jv_i)).length Y'.2.2.1 && Nat.ble Y'.2.2.1 41) = true) (hd2 : d ≤ 1000) (hst2 : (rest.map fun v => v.category).sum ≤ 8) (S : jlw_S s G hc hm H locs) (hEv : jx_Ev Y' d 0 0 false 0 (jv_r 10 0 :: As.map jv_i) hc Q)
    (k : ∀ (x : Int32) (h' : jx_H) (H1 : Heap) (locs1 : List Loc), Q (some (jv_i x)) h' → jlw_S s G h' hm H1 locs1 → W p l e room_1 s m #[Value.ref b] below meth c H1 locs1 600000 7302250 Z (F0 m (pc + 3) lr (.int x :: rest))) :
    W p l e room_1 s m #[Value.ref b] below meth c H locs 600000 7302250 Z (F0 m pc lr ((As.map Value.int).reverse ++ .ref s.heap.size :: rest)) := by
  rw [Bool.and_eq_true] at hL2
  exact jlw_call (sO := 1) (bO := s.heap.size + 128) C hlr hd hlink hf hkd (by decide) hcc hal2 hret ⟨Nat.le_of_ble_eq_true hL2.1, Nat.le_of_ble_eq_true hL2.2⟩ hd2 hst2 rfl (Nat.le_refl _) (Or.inl (by rw [jlw_l0]; exact Nat.le_refl _)) (by rw [jlw_l1]; exact S.2.2.2) (Nat.le_refl _) (Nat.le_refl _) S.1 S.2.1 S.2.2.1 (by have := S.2.2.2; omega) hEv
    (fun x h' H1 locs1 q rs ro s1 hz => k x h' H1 locs1 q ⟨rs, ro, s1, Nat.le_trans S.2.2.2 hz⟩)
theorem jlw_callM {As : List Int32} (C : jlw_C p s m meth c b L xs G) (hlr : lr.size = 4) (hd : decode code pc = .ok (.invokevirtual z, 3)) (hlink : (Cond.methodLink R_law z Y'.1) ∈ lw_tbl) (hf : jx_fa Y') (hkd : Y'.2.2.2.2.2.1 = 0) (hcc : jx_C 11 = Y'.1.cls) (hal2 : As.length = Y'.2.2.2.2.1) (hret : Y'.2.2.2.1 = some .int ∨ Y'.2.2.2.1 = some .boolean)
    (hL2 : (Nat.ble (jx_ea (jv_r 11 0 :: As.map jv_i)).length Y'.2.2.1 && Nat.ble Y'.2.2.1 41) = true) (hd2 : d ≤ 1000) (hst2 : (rest.map fun v => v.category).sum ≤ 8) (S : jlw_S s G hc hm H locs) (hEv : jx_Ev Y' d 0 0 false 1 (jv_r 11 0 :: As.map jv_i) hm Q)
    (k : ∀ (x : Int32) (h' : jx_H) (H1 : Heap) (locs1 : List Loc), Q (some (jv_i x)) h' → jlw_S s G hc h' H1 locs1 → W p l e room_1 s m #[Value.ref b] below meth c H1 locs1 600000 7302250 Z (F0 m (pc + 3) lr (.int x :: rest))) :
    W p l e room_1 s m #[Value.ref b] below meth c H locs 600000 7302250 Z (F0 m pc lr ((As.map Value.int).reverse ++ .ref (s.heap.size + 128) :: rest)) := by
  rw [Bool.and_eq_true] at hL2
  exact jlw_call (sO := 0) (bO := s.heap.size) C hlr hd hlink hf hkd (by decide) hcc hal2 hret ⟨Nat.le_of_ble_eq_true hL2.1, Nat.le_of_ble_eq_true hL2.2⟩ hd2 hst2 rfl (Nat.le_add_right _ _) (Or.inr (by rw [jlw_l0]; exact Nat.le_refl _)) (by rw [jlw_l0]; have := S.2.2.2; omega) (Nat.le_refl _) (Nat.le_refl _) S.2.1 S.1 S.2.2.1 (by have := S.2.2.2; omega) hEv
    (fun x h' H1 locs1 q rs ro s1 hz => k x h' H1 locs1 q ⟨ro, rs, s1, Nat.le_trans S.2.2.2 hz⟩)
end JL
