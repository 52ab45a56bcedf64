theorem jx_sd01 (sd : Nat) : jx_cells sd = jx_cells 0 ∨ jx_cells sd = jx_cells 1 := by
  unfold jx_cells
  by_cases h : sd = 0
  · left; rw [if_pos h, if_pos rfl]
  · right; rw [if_neg h, if_neg (by decide)]
theorem jx_cells_ok : ∀ s, s < 2 → (List.range (jx_cells s).length).all (fun q => decide ((jx_cells s).idxOf ((jx_cells s).getD q (15, 0)) = q) && (decide (((jx_cells s).getD q (15, 0)).1 < 12) || decide (15 < ((jx_cells s).getD q (15, 0)).1)) && decide (((jx_cells s).getD q (15, 0)).1 < 123)) = true := by decide +kernel
theorem jx_cell_facts {sd q k i : Nat} (hq : (jx_cells sd)[q]? = some (k, i)) : jx_ix sd k i = q ∧ (k < 12 ∨ 15 < k) ∧ k < 123 := by
  have go : ∀ s, s < 2 → jx_cells sd = jx_cells s → jx_ix sd k i = q ∧ (k < 12 ∨ 15 < k) ∧ k < 123 := by
    intro s hs e
    unfold jx_ix
    rw [e] at hq ⊢
    have hlt : q < (jx_cells s).length := (List.getElem?_eq_some_iff.mp hq).1
    have h := List.all_eq_true.mp (jx_cells_ok s hs) q (List.mem_range.mpr hlt)
    rw [List.getD_eq_getElem?_getD, hq] at h
    simp only [Option.getD_some, Bool.and_eq_true, Bool.or_eq_true, decide_eq_true_eq] at h
    exact ⟨h.1.1, h.1.2, h.2⟩
  rcases jx_sd01 sd with e | e
  · exact go 0 (by omega) e
  · exact go 1 (by omega) e
theorem jx_cv_of {sd q k i : Nat} (g : jx_E) (hq : (jx_cells sd)[q]? = some (k, i)) : jx_cv sd g (jv_r k i) = .ref (g.1 + q) := by
  obtain ⟨h1, h2, -⟩ := jx_cell_facts hq
  show (if k = 12 then _ else if k = 13 then _ else if k = 14 then _ else _) = _
  rw [if_neg (by omega), if_neg (by omega), if_neg (by omega), h1]
theorem jx_lr_at {sd n k i : Nat} (h : jx_lr sd n k i) (hk : k < 12 ∨ 15 < k) : ∃ q, q < n ∧ (jx_cells sd)[q]? = some (k, i) := by
  rcases h with ⟨h, -⟩ | ⟨h, -⟩ | h | h
  · omega
  · omega
  · omega
  · exact h
theorem jx_wd_at {sd q k i : Nat} {g : jx_E} {h : jx_H} (hq : (jx_cells sd)[q]? = some (k, i)) (hn : q < jh_n h) : (jx_wd sd g h)[q]? = some (g.1 + q, jx_en sd g h k i) := by
  unfold jx_wd
  rw [List.getElem?_map, List.getElem?_range hn]
  simp [jx_cq, List.getD_eq_getElem?_getD, hq]
theorem jx_wd_len {sd : Nat} {g : jx_E} {h : jx_H} : (jx_wd sd g h).length = jh_n h := by simp [jx_wd]
theorem jx_so_obj : ∀ k, k < 12 → jx_so k = (0, k, jx_N k) := by decide +kernel
theorem jx_en_obj {sd k i : Nat} {g : jx_E} {h : jx_H} (hk : k < 12) : jx_en sd g h k i = .inr (k, (List.range (jx_N k)).map (jx_fv sd g h k i)) := by
  unfold jx_en
  rw [jx_so_obj k hk]
  rfl
theorem jx_en_same {sd k i : Nat} {g : jx_E} {h h' : jx_H} (hs : jx_same h h' k i) : jx_en sd g h' k i = jx_en sd g h k i := by
  obtain ⟨h1, h2, h3⟩ := hs
  have hf : jx_fv sd g h' k i = jx_fv sd g h k i := by funext f; simp only [jx_fv, h1, h2, h3]
  have hr : jx_rv sd g h' k i = jx_rv sd g h k i := by funext f; simp only [jx_rv, h3]
  simp only [jx_en, hf, hr, h1, h2]
theorem jx_write {sd q k i : Nat} {al : Bool} {g : jx_E} {h h' : jx_H} {H H1 : Heap} (Rp : jx_rp sd al g h H) (hq : (jx_cells sd)[q]? = some (k, i)) (hn : q < jh_n h) (hnn : jh_n h' = jh_n h) (hs : ∀ a b, ¬ (a = k ∧ b = i) → jx_same h h' a b)
    (hat : va_at g.2.1 jx_cl (g.1 + q, jx_en sd g h' k i) H1) (hz : H1.size = H.size) (oq : ∀ x : Nat, x ≠ g.1 + q → H1[x]? = H[x]?) (hv : jx_vh sd al h') : jx_rp sd al g h' H1 := by
  obtain ⟨r1, r2, r3, r4, r5⟩ := Rp
  refine ⟨?_, by rw [hnn]; exact r2, fun e => by rw [hz, hnn]; exact r3 e, fun e => by rw [hnn]; exact r4 e, hv⟩
  intro j x hj
  have hjl : j < jh_n h := by have := (List.getElem?_eq_some_iff.mp hj).1; rw [jx_wd_len, hnn] at this; exact this
  have hjc : j < (jx_cells sd).length := by omega
  have hcj : (jx_cells sd)[j]? = some ((jx_cells sd)[j].1, (jx_cells sd)[j].2) := List.getElem?_eq_getElem hjc
  rw [jx_wd_at hcj (by rw [hnn]; exact hjl)] at hj
  cases hj
  by_cases e : j = q
  · subst e
    have e2 := hcj.symm.trans hq
    have e3 := Option.some.inj e2
    rw [show (jx_cells sd)[j].1 = k from congrArg Prod.fst e3, show (jx_cells sd)[j].2 = i from congrArg Prod.snd e3]
    exact hat
  · have hne : ¬ ((jx_cells sd)[j].1 = k ∧ (jx_cells sd)[j].2 = i) := by
      rintro ⟨e1, e2⟩
      rw [e1, e2] at hcj
      exact e ((jx_cell_facts hcj).1.symm.trans (jx_cell_facts hq).1)
    rw [jx_en_same (hs _ _ hne)]
    exact (r1 j _ (jx_wd_at hcj hjl)).kept (oq _ (by show g.1 + j ≠ g.1 + q; omega))
theorem jx_en_set {sd k i f : Nat} {g : jx_E} {h h' : jx_H} {v : Value} (hk : k < 12) (hv : jx_fv sd g h' k i f = v) (ho : ∀ j, j ≠ f → jx_fv sd g h' k i j = jx_fv sd g h k i j) : jx_en sd g h' k i = .inr (k, ((List.range (jx_N k)).map (jx_fv sd g h k i)).set f v) := by
  rw [jx_en_obj hk]
  congr 2
  apply List.ext_getElem?
  intro j
  by_cases hj : j < jx_N k
  · by_cases e : j = f
    · subst e
      rw [List.getElem?_set_self (by simpa using hj), List.getElem?_map, List.getElem?_range hj]
      simp [hv]
    · rw [List.getElem?_set_ne (Ne.symm e), List.getElem?_map, List.getElem?_map, List.getElem?_range hj]
      simp [ho j e]
  · rw [List.getElem?_eq_none (by simp; omega), List.getElem?_eq_none (by simp; omega)]
def jx_ty (c : Nat) : Nat → FieldType := match c with | 0 => tyX0 | 1 => tyX1 | 2 => tyX2 | 3 => tyX3 | 4 => tyX4 | 5 => tyX5 | 6 => tyX6 | 7 => tyX7 | 8 => tyX8 | 9 => tyX9 | 10 => tyX10 | _ => tyX11
def jx_isr : FieldType → Bool
  | .object _ => true
  | .array _ => true
  | _ => false
def jx_fok (c f : Nat) : Bool := decide ((jx_T c f).1 = jx_C c) && (match (jx_fi c f).1 with
  | 0 => decide (jx_ty c f = .int) && !(jx_T c f).2.2.2
  | 1 => decide (jx_ty c f = .boolean) && !(jx_T c f).2.2.2
  | 3 => decide (jx_ty c f = .long) && !(jx_T c f).2.2.2
  | 4 => jx_isr (jx_ty c f) && (jx_T c f).2.2.2
  | 5 => jx_isr (jx_ty c f) && !(jx_T c f).2.2.2
  | _ => false)
theorem jx_fok_all : (List.range 12).all (fun c => (List.range (jx_N c)).all (jx_fok c)) = true := by decide +kernel
theorem jx_fok_at {c f : Nat} (hc : c < 12) (hf : f < jx_N c) : jx_fok c f = true := List.all_eq_true.mp (List.all_eq_true.mp jx_fok_all c (List.mem_range.mpr hc)) f (List.mem_range.mpr hf)
theorem jx_12 {P : Nat → Prop} (h : P 0 ∧ P 1 ∧ P 2 ∧ P 3 ∧ P 4 ∧ P 5 ∧ P 6 ∧ P 7 ∧ P 8 ∧ P 9 ∧ P 10 ∧ P 11) : ∀ c, c < 12 → P c := by
  intro c hc
  obtain ⟨h0, h1, h2, h3, h4, h5, h6, h7, h8, h9, h10, h11⟩ := h
  have : c = 0 ∨ c = 1 ∨ c = 2 ∨ c = 3 ∨ c = 4 ∨ c = 5 ∨ c = 6 ∨ c = 7 ∨ c = 8 ∨ c = 9 ∨ c = 10 ∨ c = 11 := by omega
  rcases this with rfl | rfl | rfl | rfl | rfl | rfl | rfl | rfl | rfl | rfl | rfl | rfl <;> assumption
theorem jx_cl_at : ∀ c, c < 12 → jx_cl[c]? = some (jx_C c, jx_T c, jx_N c) := jx_12 ⟨rfl, rfl, rfl, rfl, rfl, rfl, rfl, rfl, rfl, rfl, rfl, rfl⟩
theorem jx_ty_ok : ∀ c, c < 12 → ∀ k, k < jx_N c → parseFieldDescriptor (jx_T c k).2.2.1 = some (jx_ty c k) := jx_12 ⟨tyX0_ok, tyX1_ok, tyX2_ok, tyX3_ok, tyX4_ok, tyX5_ok, tyX6_ok, tyX7_ok, tyX8_ok, tyX9_ok, tyX10_ok, tyX11_ok⟩
theorem jx_nm_ok : ∀ c, c < 12 → ∀ a, a < jx_N c → ∀ b, b < jx_N c → a ≠ b → (jx_T c a).2.1 ≠ (jx_T c b).2.1 := jx_12 ⟨nmX0, nmX1, nmX2, nmX3, nmX4, nmX5, nmX6, nmX7, nmX8, nmX9, nmX10, nmX11⟩
set_option maxRecDepth 100000 in
theorem jx_lays : ∀ c, c < 12 → ∀ w ∈ u_ws (jx_C c) (jx_T c) (jx_N c), w ∈ jx_ws := jx_12 ⟨jx_ws_of (ps := jx_lp.getD 0 []) rfl (by decide +kernel), jx_ws_of (ps := jx_lp.getD 1 []) rfl (by decide +kernel), jx_ws_of (ps := jx_lp.getD 2 []) rfl (by decide +kernel), jx_ws_of (ps := jx_lp.getD 3 []) rfl (by decide +kernel), jx_ws_of (ps := jx_lp.getD 4 []) rfl (by decide +kernel), jx_ws_of (ps := jx_lp.getD 5 []) rfl (by decide +kernel), jx_ws_of (ps := jx_lp.getD 6 []) rfl (by decide +kernel), jx_ws_of (ps := jx_lp.getD 7 []) rfl (by decide +kernel), jx_ws_of (ps := jx_lp.getD 8 []) rfl (by decide +kernel), jx_ws_of (ps := jx_lp.getD 9 []) rfl (by decide +kernel), jx_ws_of (ps := jx_lp.getD 10 []) rfl (by decide +kernel), jx_ws_of (ps := jx_lp.getD 11 []) rfl (by decide +kernel)⟩
section JXW
variable {p : Program} {l : Launch} {e : Env} {R : Room} {s : State} {m : MethodId} {args : Array Value} {below : List Frame} {meth : Method} {c : Code} {H : Heap} {locs : List Loc} {cells slots : Nat} {Q : State → Prop}
variable {cc : ByteArray} {pc : Nat} {ls : Array Slot} {rest : List Value} {D : va_G} {a : Nat} {tys : List (ClassId × FieldType)}
/-- a field of an object of ours is written: the heap behind it, its size -/
theorem jx_putO (hx : p.tables.exec = Jvm.exec) (hb : c.code = cc) {own : String} {idx : Nat} (hown : s.vm.findClass own = some m.cls) (hts : ∀ w ∈ jx_ws, w.before args s = true) (hK : va_K D jx_cl tys s) {c0 f : Nat} (hc : c0 < 12) (hf : f < jx_N c0) {fs : List Value} (hat : va_at D jx_cl (a, .inr (c0, fs)) H) (hlen : f < fs.length)
    (hlink : (Cond.fieldLink own idx (jx_T c0 f).1 (jx_T c0 f).2.1 (jx_T c0 f).2.2.1).before args s = true) {v : Value} (hfin : (jx_T c0 f).2.2.2 = false ∨ ((jx_T c0 f).2.2.2 = true ∧ meth.name = "<init>" ∧ (jx_T c0 f).1 = own)) (hn : narrow (jx_ty c0 f) v = v) (hfit : fits (jx_ty c0 f) v = true) (hdg : decode cc pc = .ok (.putfield idx, 3))
    (kk : ∀ (H1 : Heap) (sl : Nat), va_at D jx_cl (a, .inr (c0, fs.set f v)) H1 → H1.size = H.size → (∀ q : Nat, q ≠ a → H1[q]? = H[q]?) → W p l e R s m args below meth c H1 (locs ++ [⟨a, sl⟩]) cells slots Q (F0 m (pc + 3) ls rest)) : W p l e R s m args below meth c H locs cells slots Q (F0 m pc ls (v :: .ref a :: rest)) := by
  have hcl := jx_cl_at c0 hc
  have hin := jx_lays c0 hc
  have hty := jx_ty_ok c0 hc
  have hap := va_apart (own := own) hts hin (jx_ty c0) hty (jx_nm_ok c0 hc) hK hcl
  obtain ⟨r, h1, cell, q1, q2, q3, q4⟩ := hat
  have hr : r = (jx_C c0, jx_T c0, jx_N c0) := Option.some.inj (h1.symm.trans hcl)
  subst hr
  obtain ⟨hS, hfc, kC, hkC, hkind⟩ := hK.1 c0 _ hcl
  obtain ⟨cf, kf, fi, fd, hi, hsl⟩ := hS f hf
  have hst := (u_facts hfc hkC (u_lays hts hin hf) hi).1
  have hlay := hts _ (hin _ (u_in_lay hf))
  have fin : ∀ H1 : Heap, H1[a]? = some (cell.setSlot fd.slot v) → va_at D jx_cl (a, .inr (c0, fs.set f v)) H1 := fun H1 e1 => by
    rw [hsl] at e1
    exact ⟨_, hcl, t_OB.to (V := updV (vp_V fs) f v) ⟨_, e1, q2, q3, t_set q4 hap hf v⟩ (fun j _ => vp_updV_set hlen v j)⟩
  rcases hfin with hfin | ⟨hfin, hin2, hdecl⟩
  · unfold u_lay at hlay
    rw [if_neg (by rw [hfin]; decide)] at hlay
    have h6 := u_store hfc hkC hkind hlay hi (hty f hf) hn hfit
    exact W.putK hx hb (f := fd) ⟨hown, hlink, ⟨_, _, _, hi⟩, hst⟩ (by rw [q2]; exact h6) q1 q3 (by rw [hsl]; exact k2_hasslot (q4 f hf)) rfl rfl hdg fun H' e1 e2 e3 => kk H' _ (fin H' e1) e2 e3
  · unfold u_lay at hlay
    rw [if_pos hfin] at hlay
    have h6 := u_fits hfc hkC hkind (Or.inr hlay) hi (hty f hf) hn hfit
    have hcf : m.cls = cf := by
      obtain ⟨_, _, c', _, _, _, -, -, hf', -, -, -, hown2, -⟩ := Cond.laysFinal_spec hlay
      have e1 : c' = cf := by have := hi.symm.trans hf'; simp at this; exact this.1.symm
      rw [hdecl] at hown2
      rw [← e1]; exact Option.some.inj (hown.symm.trans hown2)
    exact W.putFinK hx hb hown hlink hi hst hcf hin2 (by rw [q2]; exact h6) q1 q3 (by rw [hsl]; exact k2_hasslot (q4 f hf)) rfl rfl hdg fun H' e1 e2 e3 => kk H' _ (fin H' e1) e2 e3
end JXW
def jx_pk (c f t : Nat) : Bool := decide (c < 12) && decide (f < jx_N c) && decide ((jx_fi c f).1 = t)
theorem jx_pk_of {c f t : Nat} (h : jx_pk c f t = true) : c < 12 ∧ f < jx_N c ∧ (jx_fi c f).1 = t := by
  simp only [jx_pk, Bool.and_eq_true, decide_eq_true_eq] at h
  exact ⟨h.1.1, h.1.2, h.2⟩
theorem jx_Aq {sd q : Nat} {al : Bool} {g : jx_E} {h : jx_H} {H : Heap} (Rp : jx_rp sd al g h H) (hn : q < jh_n h) : jx_A sd al g (g.1 + q) := ⟨by omega, by have := Rp.2.1; cases al <;> first | (right; omega) | exact Or.inl rfl⟩
theorem jx_SP {sd q sl : Nat} {al : Bool} {g : jx_E} {h : jx_H} {H0 H H1 : Heap} {locs : List Loc} (Rp : jx_rp sd al g h H) (hn : q < jh_n h) (S : va_S (jx_A sd al g) H0 H locs) (hz : H1.size = H.size) (oq : ∀ x : Nat, x ≠ g.1 + q → H1[x]? = H[x]?) : va_S (jx_A sd al g) H0 H1 (locs ++ [⟨g.1 + q, sl⟩]) := S.put hz oq (jx_Aq Rp hn)
theorem jr_getI {T : jx_P} {Q : Option jx_V → jx_H → Prop} {kc ks n : Nat} {ls : List (Option jx_V)} {st : List jx_V} {h : jx_H} {a f i : Nat} {z : Int}  (hc : jx_at (jm_k (jt_Y T)) n = some (jx_oz 60 a f z)) (ht : jx_pk a f 0 = true) (k : jx_W T Q kc ks (n + 1) ls (jv_i (jh_I h a i f) :: st) h) : jx_W T Q kc ks n ls (jv_r a i :: st) h := by
  intro g p l e R s mI args below meth c C H locs lr pc Rp S L V St N0 hp
  obtain ⟨hx, hb, hml, hr, hown, hts, hlk, hnm, hK, hE, hg1, hR, hck, hal⟩ := id C
  obtain ⟨hd, hnx, hsd⟩ := jx_step hck hc rfl hp
  obtain ⟨h12, hfN, hft⟩ := jx_pk_of ht
  obtain ⟨q, hqn, hq⟩ := jx_lr_at St.1 (Or.inl h12)
  have hcv := jx_cv_of g hq
  have hat := Rp.1 q _ (jx_wd_at hq hqn)
  rw [jx_en_obj h12] at hat
  have hlink := hts _ (jx_word hal hc (List.mem_cons_self))
  have hfv : ((List.range (jx_N a)).map (jx_fv (jt_sd T) g h a i))[f]? = some (jx_cv (jt_sd T) g (jv_i (jh_I h a i f))) := by
    rw [List.getElem?_map, List.getElem?_range hfN]
    show some (jx_fv (jt_sd T) g h a i f) = _
    simp [jx_fv, hft, jx_cv]
  rw [List.map_cons, hcv]
  exact va_get (D := g.2.1) (ci := a) (C := jx_C a) (T := jx_T a) (N := jx_N a) (ref := (jx_T a f).1) hx hb hts (jx_lays a h12) hown hK Rp.1 q (by rw [jx_wd_at hq hqn, jx_en_obj h12]) (jx_cl_at a h12) f hfN hlink (fun _ h9 => h9) hfv hd (k g p l e R s mI args below meth c C H locs lr _ Rp S L V ⟨trivial, St.2⟩ N0 (hnx rfl))
theorem jr_getZ {T : jx_P} {Q : Option jx_V → jx_H → Prop} {kc ks n : Nat} {ls : List (Option jx_V)} {st : List jx_V} {h : jx_H} {a f i : Nat} {z : Int}  (hc : jx_at (jm_k (jt_Y T)) n = some (jx_oz 60 a f z)) (ht : jx_pk a f 1 = true) (k : jx_W T Q kc ks (n + 1) ls (jv_i (jh_I h a i f) :: st) h) : jx_W T Q kc ks n ls (jv_r a i :: st) h := by
  intro g p l e R s mI args below meth c C H locs lr pc Rp S L V St N0 hp
  obtain ⟨hx, hb, hml, hr, hown, hts, hlk, hnm, hK, hE, hg1, hR, hck, hal⟩ := id C
  obtain ⟨hd, hnx, hsd⟩ := jx_step hck hc rfl hp
  obtain ⟨h12, hfN, hft⟩ := jx_pk_of ht
  obtain ⟨q, hqn, hq⟩ := jx_lr_at St.1 (Or.inl h12)
  have hcv := jx_cv_of g hq
  have hat := Rp.1 q _ (jx_wd_at hq hqn)
  rw [jx_en_obj h12] at hat
  have hlink := hts _ (jx_word hal hc (List.mem_cons_self))
  have hfv : ((List.range (jx_N a)).map (jx_fv (jt_sd T) g h a i))[f]? = some (jx_cv (jt_sd T) g (jv_i (jh_I h a i f))) := by
    rw [List.getElem?_map, List.getElem?_range hfN]
    show some (jx_fv (jt_sd T) g h a i f) = _
    simp [jx_fv, hft, jx_cv]
  rw [List.map_cons, hcv]
  exact va_get (D := g.2.1) (ci := a) (C := jx_C a) (T := jx_T a) (N := jx_N a) (ref := (jx_T a f).1) hx hb hts (jx_lays a h12) hown hK Rp.1 q (by rw [jx_wd_at hq hqn, jx_en_obj h12]) (jx_cl_at a h12) f hfN hlink (fun _ h9 => h9) hfv hd (k g p l e R s mI args below meth c C H locs lr _ Rp S L V ⟨trivial, St.2⟩ N0 (hnx rfl))
theorem jr_getL {T : jx_P} {Q : Option jx_V → jx_H → Prop} {kc ks n : Nat} {ls : List (Option jx_V)} {st : List jx_V} {h : jx_H} {a f i : Nat} {z : Int}  (hc : jx_at (jm_k (jt_Y T)) n = some (jx_oz 60 a f z)) (ht : jx_pk a f 3 = true) (k : jx_W T Q kc ks (n + 1) ls (jv_l (jh_L h a i f) :: st) h) : jx_W T Q kc ks n ls (jv_r a i :: st) h := by
  intro g p l e R s mI args below meth c C H locs lr pc Rp S L V St N0 hp
  obtain ⟨hx, hb, hml, hr, hown, hts, hlk, hnm, hK, hE, hg1, hR, hck, hal⟩ := id C
  obtain ⟨hd, hnx, hsd⟩ := jx_step hck hc rfl hp
  obtain ⟨h12, hfN, hft⟩ := jx_pk_of ht
  obtain ⟨q, hqn, hq⟩ := jx_lr_at St.1 (Or.inl h12)
  have hcv := jx_cv_of g hq
  have hat := Rp.1 q _ (jx_wd_at hq hqn)
  rw [jx_en_obj h12] at hat
  have hlink := hts _ (jx_word hal hc (List.mem_cons_self))
  have hfv : ((List.range (jx_N a)).map (jx_fv (jt_sd T) g h a i))[f]? = some (jx_cv (jt_sd T) g (jv_l (jh_L h a i f))) := by
    rw [List.getElem?_map, List.getElem?_range hfN]
    show some (jx_fv (jt_sd T) g h a i f) = _
    simp [jx_fv, hft, jx_cv]
  rw [List.map_cons, hcv]
  exact va_get (D := g.2.1) (ci := a) (C := jx_C a) (T := jx_T a) (N := jx_N a) (ref := (jx_T a f).1) hx hb hts (jx_lays a h12) hown hK Rp.1 q (by rw [jx_wd_at hq hqn, jx_en_obj h12]) (jx_cl_at a h12) f hfN hlink (fun _ h9 => h9) hfv hd (k g p l e R s mI args below meth c C H locs lr _ Rp S L V ⟨trivial, St.2⟩ N0 (hnx rfl))
theorem jx_ref_t {sd n k i : Nat} {g : jx_E} (hk : k < 12 ∨ 15 < k) (h : jx_lr sd n k i) : jx_cv sd g (jv_r k i) = .ref (g.1 + jx_ix sd k i) := by
  obtain ⟨q, -, hq⟩ := jx_lr_at h hk
  rw [jx_cv_of g hq, (jx_cell_facts hq).1]
theorem jr_getR {T : jx_P} {Q : Option jx_V → jx_H → Prop} {kc ks n : Nat} {ls : List (Option jx_V)} {st : List jx_V} {h : jx_H} {a f i tk : Nat} {tf : Nat → Nat → Nat} {z : Int} (hc : jx_at (jm_k (jt_Y T)) n = some (jx_oz 60 a f z)) (ht : jx_pk a f 4 = true) (he : jx_fi a f = (4, tk, tf)) (hk : (decide (tk < 12) || decide (15 < tk)) = true) (hm : jt_al T = false ∨ jh_M h a i f ≠ 0) (k : jx_W T Q kc ks (n + 1) ls (jv_r tk (tf i 0) :: st) h) : jx_W T Q kc ks n ls (jv_r a i :: st) h := by
  intro g p l e R s mI args below meth c C H locs lr pc Rp S L V St N0 hp
  obtain ⟨hx, hb, hml, hr, hown, hts, hlk, hnm, hK, hE, hg1, hR, hck, hal⟩ := id C
  obtain ⟨hd, hnx, hsd⟩ := jx_step hck hc rfl hp
  obtain ⟨h12, hfN, hft⟩ := jx_pk_of ht
  obtain ⟨q, hqn, hq⟩ := jx_lr_at St.1 (Or.inl h12)
  have hcv := jx_cv_of g hq
  have hat := Rp.1 q _ (jx_wd_at hq hqn)
  rw [jx_en_obj h12] at hat
  have hlink := hts _ (jx_word hal hc (List.mem_cons_self))
  have hk' : tk < 12 ∨ 15 < tk := by simpa using hk
  have hvh := (Rp.2.2.2.2 q a i hqn hq).1 f (by rw [jx_so_obj a h12]; exact hfN) hft
  have hm' : jh_M h a i f ≠ 0 := hm.elim (fun q => hvh.2 q) id
  have hlr := hvh.1 hm'
  rw [he] at hlr
  have hfv : ((List.range (jx_N a)).map (jx_fv (jt_sd T) g h a i))[f]? = some (jx_cv (jt_sd T) g (jv_r tk (tf i 0))) := by
    rw [List.getElem?_map, List.getElem?_range hfN, jx_ref_t hk' hlr]
    show some (jx_fv (jt_sd T) g h a i f) = _
    simp [jx_fv, he, hm']
  rw [List.map_cons, hcv]
  exact va_get (D := g.2.1) (ci := a) (C := jx_C a) (T := jx_T a) (N := jx_N a) (ref := (jx_T a f).1) hx hb hts (jx_lays a h12) hown hK Rp.1 q (by rw [jx_wd_at hq hqn, jx_en_obj h12]) (jx_cl_at a h12) f hfN hlink (fun _ h9 => h9) hfv hd (k g p l e R s mI args below meth c C H locs lr _ Rp S L V ⟨hlr, St.2⟩ N0 (hnx rfl))
theorem jr_getM {T : jx_P} {Q : Option jx_V → jx_H → Prop} {kc ks n : Nat} {ls : List (Option jx_V)} {st : List jx_V} {h : jx_H} {a f i tk v : Nat} {tf : Nat → Nat → Nat} {z : Int} (hc : jx_at (jm_k (jt_Y T)) n = some (jx_oz 60 a f z)) (ht : jx_pk a f 5 = true) (he : jx_fi a f = (5, tk, tf)) (hk : (decide (tk < 12) || decide (15 < tk)) = true) (hm : jh_M h a i f = v + 1) (k : jx_W T Q kc ks (n + 1) ls (jv_r tk v :: st) h) : jx_W T Q kc ks n ls (jv_r a i :: st) h := by
  intro g p l e R s mI args below meth c C H locs lr pc Rp S L V St N0 hp
  obtain ⟨hx, hb, hml, hr, hown, hts, hlk, hnm, hK, hE, hg1, hR, hck, hal⟩ := id C
  obtain ⟨hd, hnx, hsd⟩ := jx_step hck hc rfl hp
  obtain ⟨h12, hfN, hft⟩ := jx_pk_of ht
  obtain ⟨q, hqn, hq⟩ := jx_lr_at St.1 (Or.inl h12)
  have hcv := jx_cv_of g hq
  have hat := Rp.1 q _ (jx_wd_at hq hqn)
  rw [jx_en_obj h12] at hat
  have hlink := hts _ (jx_word hal hc (List.mem_cons_self))
  have hk' : tk < 12 ∨ 15 < tk := by simpa using hk
  have hlr := (Rp.2.2.2.2 q a i hqn hq).2.1 f (by rw [jx_so_obj a h12]; exact hfN) hft (by omega)
  rw [he, hm] at hlr
  have hlr : jx_lr (jt_sd T) (jh_n h) tk v := hlr
  have hfv : ((List.range (jx_N a)).map (jx_fv (jt_sd T) g h a i))[f]? = some (jx_cv (jt_sd T) g (jv_r tk v)) := by
    rw [List.getElem?_map, List.getElem?_range hfN, jx_ref_t hk' hlr]
    show some (jx_fv (jt_sd T) g h a i f) = _
    simp [jx_fv, he, hm]
  rw [List.map_cons, hcv]
  exact va_get (D := g.2.1) (ci := a) (C := jx_C a) (T := jx_T a) (N := jx_N a) (ref := (jx_T a f).1) hx hb hts (jx_lays a h12) hown hK Rp.1 q (by rw [jx_wd_at hq hqn, jx_en_obj h12]) (jx_cl_at a h12) f hfN hlink (fun _ h9 => h9) hfv hd (k g p l e R s mI args below meth c C H locs lr _ Rp S L V ⟨hlr, St.2⟩ N0 (hnx rfl))
theorem jr_putI {T : jx_P} {Q : Option jx_V → jx_H → Prop} {kc ks n : Nat} {ls : List (Option jx_V)} {st : List jx_V} {h : jx_H} {a f i : Nat} {z : Int} {x : Int32} (hc : jx_at (jm_k (jt_Y T)) n = some (jx_oz 61 a f z)) (ht : jx_pk a f 0 = true) (k : jx_W T Q kc ks (n + 1) ls st (ju_I h a i (upd (jh_I h a i) f x))) : jx_W T Q kc ks n ls (jv_i x :: jv_r a i :: st) h := by
  intro g p l e R s mI args below meth c C H locs lr pc Rp S L V St N0 hp
  obtain ⟨hx, hb, hml, hr, hown, hts, hlk, hnm, hK, hE, hg1, hR, hck, hal⟩ := id C
  obtain ⟨hd, hnx, hsd⟩ := jx_step hck hc rfl hp
  obtain ⟨h12, hfN, hft⟩ := jx_pk_of ht
  obtain ⟨q, hqn, hq⟩ := jx_lr_at St.2.1 (Or.inl h12)
  have hcv := jx_cv_of g hq
  have hat := Rp.1 q _ (jx_wd_at hq hqn)
  rw [jx_en_obj h12] at hat
  have hlink := hts _ (jx_word hal hc (List.mem_cons_self))
  have hok := jx_fok_at h12 hfN
  simp only [jx_fok, hft, Bool.and_eq_true, decide_eq_true_eq, Bool.not_eq_true'] at hok
  rw [List.map_cons, List.map_cons, hcv]
  refine jx_putO (v := jx_cv (jt_sd T) g (jv_i x)) hx hb hown hts hK h12 hfN hat (by simpa using hfN) hlink (Or.inl hok.2.2) (by rw [hok.2.1]; rfl) (by rw [hok.2.1]; rfl) hd (fun H1 sl hat1 hz oq => ?_)
  have hen : jx_en (jt_sd T) g (ju_I h a i (upd (jh_I h a i) f x)) a i = .inr (a, ((List.range (jx_N a)).map (jx_fv (jt_sd T) g h a i)).set f (jx_cv (jt_sd T) g (jv_i x))) := jx_en_set h12 (by simp [jx_fv, hft, jx_cv, jg_II, jg_us]) (fun j hj => jx_fv_congr (by first | rfl | exact (congrFun (jg_II _ _ _ _) j).trans (jg_un hj)) (by first | rfl | exact (congrFun (jg_LL _ _ _ _) j).trans (jg_Lun hj)) (by first | rfl | exact (congrFun (jg_MM _ _ _ _) j).trans (jg_Mun hj)))
  have hvh : jx_vh (jt_sd T) (jt_al T) (ju_I h a i (upd (jh_I h a i) f x)) := Rp.2.2.2.2
  exact (k g p l e R s mI args below meth c C H1 _ lr _ (jx_write Rp hq hqn rfl (fun x y hxy => by first | exact jx_same_I hxy | exact jx_same_L hxy | exact jx_same_M hxy) (by rw [hen]; exact hat1) hz oq hvh) (jx_SP Rp hqn S hz oq) L V St.2.2 N0 (hnx rfl))
theorem jr_putZ {T : jx_P} {Q : Option jx_V → jx_H → Prop} {kc ks n : Nat} {ls : List (Option jx_V)} {st : List jx_V} {h : jx_H} {a f i : Nat} {z : Int} {x : Int32} (hc : jx_at (jm_k (jt_Y T)) n = some (jx_oz 61 a f z)) (ht : jx_pk a f 1 = true) (hz2 : x = 0 ∨ x = 1) (k : jx_W T Q kc ks (n + 1) ls st (ju_I h a i (upd (jh_I h a i) f x))) : jx_W T Q kc ks n ls (jv_i x :: jv_r a i :: st) h := by
  intro g p l e R s mI args below meth c C H locs lr pc Rp S L V St N0 hp
  obtain ⟨hx, hb, hml, hr, hown, hts, hlk, hnm, hK, hE, hg1, hR, hck, hal⟩ := id C
  obtain ⟨hd, hnx, hsd⟩ := jx_step hck hc rfl hp
  obtain ⟨h12, hfN, hft⟩ := jx_pk_of ht
  obtain ⟨q, hqn, hq⟩ := jx_lr_at St.2.1 (Or.inl h12)
  have hcv := jx_cv_of g hq
  have hat := Rp.1 q _ (jx_wd_at hq hqn)
  rw [jx_en_obj h12] at hat
  have hlink := hts _ (jx_word hal hc (List.mem_cons_self))
  have hok := jx_fok_at h12 hfN
  simp only [jx_fok, hft, Bool.and_eq_true, decide_eq_true_eq, Bool.not_eq_true'] at hok
  rw [List.map_cons, List.map_cons, hcv]
  refine jx_putO (v := jx_cv (jt_sd T) g (jv_i x)) hx hb hown hts hK h12 hfN hat (by simpa using hfN) hlink (Or.inl hok.2.2) (by rw [hok.2.1]; rcases hz2 with rfl | rfl <;> rfl) (by rw [hok.2.1]; rcases hz2 with rfl | rfl <;> rfl) hd (fun H1 sl hat1 hz oq => ?_)
  have hen : jx_en (jt_sd T) g (ju_I h a i (upd (jh_I h a i) f x)) a i = .inr (a, ((List.range (jx_N a)).map (jx_fv (jt_sd T) g h a i)).set f (jx_cv (jt_sd T) g (jv_i x))) := jx_en_set h12 (by simp [jx_fv, hft, jx_cv, jg_II, jg_us]) (fun j hj => jx_fv_congr (by first | rfl | exact (congrFun (jg_II _ _ _ _) j).trans (jg_un hj)) (by first | rfl | exact (congrFun (jg_LL _ _ _ _) j).trans (jg_Lun hj)) (by first | rfl | exact (congrFun (jg_MM _ _ _ _) j).trans (jg_Mun hj)))
  have hvh : jx_vh (jt_sd T) (jt_al T) (ju_I h a i (upd (jh_I h a i) f x)) := Rp.2.2.2.2
  exact (k g p l e R s mI args below meth c C H1 _ lr _ (jx_write Rp hq hqn rfl (fun x y hxy => by first | exact jx_same_I hxy | exact jx_same_L hxy | exact jx_same_M hxy) (by rw [hen]; exact hat1) hz oq hvh) (jx_SP Rp hqn S hz oq) L V St.2.2 N0 (hnx rfl))
theorem jr_putL {T : jx_P} {Q : Option jx_V → jx_H → Prop} {kc ks n : Nat} {ls : List (Option jx_V)} {st : List jx_V} {h : jx_H} {a f i : Nat} {z : Int} {x : Int64} (hc : jx_at (jm_k (jt_Y T)) n = some (jx_oz 61 a f z)) (ht : jx_pk a f 3 = true) (k : jx_W T Q kc ks (n + 1) ls st (ju_L h a i (vp_updL (jh_L h a i) f x))) : jx_W T Q kc ks n ls (jv_l x :: jv_r a i :: st) h := by
  intro g p l e R s mI args below meth c C H locs lr pc Rp S L V St N0 hp
  obtain ⟨hx, hb, hml, hr, hown, hts, hlk, hnm, hK, hE, hg1, hR, hck, hal⟩ := id C
  obtain ⟨hd, hnx, hsd⟩ := jx_step hck hc rfl hp
  obtain ⟨h12, hfN, hft⟩ := jx_pk_of ht
  obtain ⟨q, hqn, hq⟩ := jx_lr_at St.2.1 (Or.inl h12)
  have hcv := jx_cv_of g hq
  have hat := Rp.1 q _ (jx_wd_at hq hqn)
  rw [jx_en_obj h12] at hat
  have hlink := hts _ (jx_word hal hc (List.mem_cons_self))
  have hok := jx_fok_at h12 hfN
  simp only [jx_fok, hft, Bool.and_eq_true, decide_eq_true_eq, Bool.not_eq_true'] at hok
  rw [List.map_cons, List.map_cons, hcv]
  refine jx_putO (v := jx_cv (jt_sd T) g (jv_l x)) hx hb hown hts hK h12 hfN hat (by simpa using hfN) hlink (Or.inl hok.2.2) (by rw [hok.2.1]; rfl) (by rw [hok.2.1]; rfl) hd (fun H1 sl hat1 hz oq => ?_)
  have hen : jx_en (jt_sd T) g (ju_L h a i (vp_updL (jh_L h a i) f x)) a i = .inr (a, ((List.range (jx_N a)).map (jx_fv (jt_sd T) g h a i)).set f (jx_cv (jt_sd T) g (jv_l x))) := jx_en_set h12 (by simp [jx_fv, hft, jx_cv, jg_LL, jg_Lus]) (fun j hj => jx_fv_congr (by first | rfl | exact (congrFun (jg_II _ _ _ _) j).trans (jg_un hj)) (by first | rfl | exact (congrFun (jg_LL _ _ _ _) j).trans (jg_Lun hj)) (by first | rfl | exact (congrFun (jg_MM _ _ _ _) j).trans (jg_Mun hj)))
  have hvh : jx_vh (jt_sd T) (jt_al T) (ju_L h a i (vp_updL (jh_L h a i) f x)) := Rp.2.2.2.2
  exact (k g p l e R s mI args below meth c C H1 _ lr _ (jx_write Rp hq hqn rfl (fun x y hxy => by first | exact jx_same_I hxy | exact jx_same_L hxy | exact jx_same_M hxy) (by rw [hen]; exact hat1) hz oq hvh) (jx_SP Rp hqn S hz oq) L V St.2.2 N0 (hnx rfl))
theorem jx_narR {t : FieldType} {v : Value} (h : jx_isr t = true) (hv : ∃ a, v = .ref a) : narrow t v = v ∧ fits t v = true := by
  obtain ⟨a, rfl⟩ := hv
  cases t <;> first | exact ⟨rfl, rfl⟩ | cases h
theorem jr_putR {T : jx_P} {Q : Option jx_V → jx_H → Prop} {kc ks n : Nat} {ls : List (Option jx_V)} {st : List jx_V} {h : jx_H} {a f i : Nat} {z : Int} {tk tv : Nat} {tf : Nat → Nat → Nat} (hc : jx_at (jm_k (jt_Y T)) n = some (jx_oz 61 a f z)) (ht : jx_pk a f 4 = true) (he : jx_fi a f = (4, tk, tf)) (hk : (decide (tk < 12) || decide (15 < tk)) = true) (htv : tf i 0 = tv) (hin : (jt_Y T).1.name = "<init>") (hdc : jx_C a = (jt_Y T).1.cls) (k : jx_W T Q kc ks (n + 1) ls st (ju_M h a i (va_up (jh_M h a i) f 1))) : jx_W T Q kc ks n ls (jv_r tk tv :: jv_r a i :: st) h := by
  intro g p l e R s mI args below meth c C H locs lr pc Rp S L V St N0 hp
  obtain ⟨hx, hb, hml, hr, hown, hts, hlk, hnm, hK, hE, hg1, hR, hck, hal⟩ := id C
  obtain ⟨hd, hnx, hsd⟩ := jx_step hck hc rfl hp
  obtain ⟨h12, hfN, hft⟩ := jx_pk_of ht
  obtain ⟨q, hqn, hq⟩ := jx_lr_at St.2.1 (Or.inl h12)
  have hcv := jx_cv_of g hq
  have hat := Rp.1 q _ (jx_wd_at hq hqn)
  rw [jx_en_obj h12] at hat
  have hlink := hts _ (jx_word hal hc (List.mem_cons_self))
  have hok := jx_fok_at h12 hfN
  simp only [jx_fok, hft, Bool.and_eq_true, decide_eq_true_eq, Bool.not_eq_true'] at hok
  rw [List.map_cons, List.map_cons, hcv]
  refine jx_putO (v := jx_cv (jt_sd T) g (jv_r tk tv)) hx hb hown hts hK h12 hfN hat (by simpa using hfN) hlink (Or.inr ⟨hok.2.2, by rw [hnm]; exact hin, by rw [hok.1]; exact hdc⟩) (jx_narR hok.2.1 ⟨_, jx_ref_t (by simpa using hk) St.1⟩).1 (jx_narR hok.2.1 ⟨_, jx_ref_t (by simpa using hk) St.1⟩).2 hd (fun H1 sl hat1 hz oq => ?_)
  have hen : jx_en (jt_sd T) g (ju_M h a i (va_up (jh_M h a i) f 1)) a i = .inr (a, ((List.range (jx_N a)).map (jx_fv (jt_sd T) g h a i)).set f (jx_cv (jt_sd T) g (jv_r tk tv))) := jx_en_set h12 (by rw [jx_ref_t (by simpa using hk) St.1]; simp [jx_fv, he, jg_MM, jg_Mus, htv]) (fun j hj => jx_fv_congr (by first | rfl | exact (congrFun (jg_II _ _ _ _) j).trans (jg_un hj)) (by first | rfl | exact (congrFun (jg_LL _ _ _ _) j).trans (jg_Lun hj)) (by first | rfl | exact (congrFun (jg_MM _ _ _ _) j).trans (jg_Mun hj)))
  have hvh : jx_vh (jt_sd T) (jt_al T) (ju_M h a i (va_up (jh_M h a i) f 1)) := (by
    intro q2 k2 i2 hq2 hc2
    obtain ⟨v1, v2, v3⟩ := Rp.2.2.2.2 q2 k2 i2 hq2 hc2
    by_cases e2 : k2 = a ∧ i2 = i
    · obtain ⟨rfl, rfl⟩ := e2
      have eM : ∀ j, jh_M (ju_M h k2 i2 (va_up (jh_M h k2 i2) f 1)) k2 i2 j = if j = f then 1 else jh_M h k2 i2 j := fun j => by rw [jg_MM]; rfl
      refine ⟨fun j hj hj4 => ?_, fun j hj hj5 => ?_, fun h4 => absurd h4 (by rw [jx_so_obj k2 h12]; exact Nat.not_lt_zero _)⟩
      · rw [eM]
        by_cases ej : j = f
        · subst ej
          rw [if_pos rfl, he]
          exact ⟨fun _ => by show jx_lr _ _ tk (tf i2 0); rw [htv]; exact St.1, fun _ => by decide⟩
        · rw [if_neg ej]; exact v1 j hj hj4
      · rw [eM]
        by_cases ej : j = f
        · subst ej
          rw [hft] at hj5; cases hj5
        · rw [if_neg ej]; exact v2 j hj hj5
    · have eM : jh_M (ju_M h a i (va_up (jh_M h a i) f 1)) k2 i2 = jh_M h k2 i2 := if_neg e2
      rw [eM]
      exact ⟨v1, v2, v3⟩)
  exact (k g p l e R s mI args below meth c C H1 _ lr _ (jx_write Rp hq hqn rfl (fun x y hxy => by first | exact jx_same_I hxy | exact jx_same_L hxy | exact jx_same_M hxy) (by rw [hen]; exact hat1) hz oq hvh) (jx_SP Rp hqn S hz oq) L V St.2.2 N0 (hnx rfl))
theorem jr_putM {T : jx_P} {Q : Option jx_V → jx_H → Prop} {kc ks n : Nat} {ls : List (Option jx_V)} {st : List jx_V} {h : jx_H} {a f i : Nat} {z : Int} {tk tv : Nat} {tf : Nat → Nat → Nat} (hc : jx_at (jm_k (jt_Y T)) n = some (jx_oz 61 a f z)) (ht : jx_pk a f 5 = true) (he : jx_fi a f = (5, tk, tf)) (hk : (decide (tk < 12) || decide (15 < tk)) = true) (k : jx_W T Q kc ks (n + 1) ls st (ju_M h a i (va_up (jh_M h a i) f (tv + 1)))) : jx_W T Q kc ks n ls (jv_r tk tv :: jv_r a i :: st) h := by
  intro g p l e R s mI args below meth c C H locs lr pc Rp S L V St N0 hp
  obtain ⟨hx, hb, hml, hr, hown, hts, hlk, hnm, hK, hE, hg1, hR, hck, hal⟩ := id C
  obtain ⟨hd, hnx, hsd⟩ := jx_step hck hc rfl hp
  obtain ⟨h12, hfN, hft⟩ := jx_pk_of ht
  obtain ⟨q, hqn, hq⟩ := jx_lr_at St.2.1 (Or.inl h12)
  have hcv := jx_cv_of g hq
  have hat := Rp.1 q _ (jx_wd_at hq hqn)
  rw [jx_en_obj h12] at hat
  have hlink := hts _ (jx_word hal hc (List.mem_cons_self))
  have hok := jx_fok_at h12 hfN
  simp only [jx_fok, hft, Bool.and_eq_true, decide_eq_true_eq, Bool.not_eq_true'] at hok
  rw [List.map_cons, List.map_cons, hcv]
  refine jx_putO (v := jx_cv (jt_sd T) g (jv_r tk tv)) hx hb hown hts hK h12 hfN hat (by simpa using hfN) hlink (Or.inl hok.2.2) (jx_narR hok.2.1 ⟨_, jx_ref_t (by simpa using hk) St.1⟩).1 (jx_narR hok.2.1 ⟨_, jx_ref_t (by simpa using hk) St.1⟩).2 hd (fun H1 sl hat1 hz oq => ?_)
  have hen : jx_en (jt_sd T) g (ju_M h a i (va_up (jh_M h a i) f (tv + 1))) a i = .inr (a, ((List.range (jx_N a)).map (jx_fv (jt_sd T) g h a i)).set f (jx_cv (jt_sd T) g (jv_r tk tv))) := jx_en_set h12 (by rw [jx_ref_t (by simpa using hk) St.1]; simp [jx_fv, he, jg_MM, jg_Mus]) (fun j hj => jx_fv_congr (by first | rfl | exact (congrFun (jg_II _ _ _ _) j).trans (jg_un hj)) (by first | rfl | exact (congrFun (jg_LL _ _ _ _) j).trans (jg_Lun hj)) (by first | rfl | exact (congrFun (jg_MM _ _ _ _) j).trans (jg_Mun hj)))
  have hvh : jx_vh (jt_sd T) (jt_al T) (ju_M h a i (va_up (jh_M h a i) f (tv + 1))) := (by
    intro q2 k2 i2 hq2 hc2
    obtain ⟨v1, v2, v3⟩ := Rp.2.2.2.2 q2 k2 i2 hq2 hc2
    by_cases e2 : k2 = a ∧ i2 = i
    · obtain ⟨rfl, rfl⟩ := e2
      have eM : ∀ j, jh_M (ju_M h k2 i2 (va_up (jh_M h k2 i2) f (tv + 1))) k2 i2 j = if j = f then (tv + 1) else jh_M h k2 i2 j := fun j => by rw [jg_MM]; rfl
      refine ⟨fun j hj hj4 => ?_, fun j hj hj5 => ?_, fun h4 => absurd h4 (by rw [jx_so_obj k2 h12]; exact Nat.not_lt_zero _)⟩
      · rw [eM]
        by_cases ej : j = f
        · subst ej
          rw [hft] at hj4; cases hj4
        · rw [if_neg ej]; exact v1 j hj hj4
      · rw [eM]
        by_cases ej : j = f
        · subst ej
          rw [if_pos rfl, he]
          exact fun _ => St.1
        · rw [if_neg ej]; exact v2 j hj hj5
    · have eM : jh_M (ju_M h a i (va_up (jh_M h a i) f (tv + 1))) k2 i2 = jh_M h k2 i2 := if_neg e2
      rw [eM]
      exact ⟨v1, v2, v3⟩)
  exact (k g p l e R s mI args below meth c C H1 _ lr _ (jx_write Rp hq hqn rfl (fun x y hxy => by first | exact jx_same_I hxy | exact jx_same_L hxy | exact jx_same_M hxy) (by rw [hen]; exact hat1) hz oq hvh) (jx_SP Rp hqn S hz oq) L V St.2.2 N0 (hnx rfl))
theorem jx_en_I {sd k i s c n : Nat} {g : jx_E} {h : jx_H} (hs : jx_so k = (s, c, n)) (h0 : 0 < s) (h4 : s < 4) : jx_en sd g h k i = .inl (g.2.2.1 s, n, .inl (jh_I h k i)) := by
  unfold jx_en
  rw [hs]
  show (if s = 0 then _ else if s = 4 then _ else if s < 4 then _ else _) = _
  rw [if_neg (by omega), if_neg (by omega), if_pos h4]
theorem jx_en_L {sd k i c n : Nat} {g : jx_E} {h : jx_H} (hs : jx_so k = (4, c, n)) : jx_en sd g h k i = .inl (g.2.2.1 4, n, .inr (.inl (jh_L h k i))) := by
  unfold jx_en
  rw [hs]
  rfl
theorem jx_en_R {sd k i s c n : Nat} {g : jx_E} {h : jx_H} (hs : jx_so k = (s, c, n)) (h4 : 4 < s) : jx_en sd g h k i = .inl (g.2.2.1 s, n, .inr (.inr (.inr (.inr (jx_rv sd g h k i))))) := by
  unfold jx_en
  rw [hs]
  show (if s = 0 then _ else if s = 4 then _ else if s < 4 then _ else _) = _
  rw [if_neg (by omega), if_neg (by omega), if_neg (by omega)]
theorem jx_tys_at {g : jx_E} {s : Nat} (hs : s < 8) : (jx_tys g)[s]? = some (g.2.2.1 s, jx_et s) := by
  unfold jx_tys
  rw [List.getElem?_map, List.getElem?_range hs]
  rfl
theorem jx_so_arr {k s c n : Nat} (hs : jx_so k = (s, c, n)) (h0 : 0 < s) : k < 12 ∨ 15 < k ∨ k = 12 ∨ k = 13 ∨ k = 14 ∨ k = 15 := by omega
theorem jx_clamp {x : Int32} {m n : Nat} (hm : m < n) (hn : n < 2147483648) (e : x = nI m) : vp_in x n ∧ x.toNatClampNeg = m := by
  subst e
  exact ⟨vp_in_nI hm hn, nI_clamp (by omega)⟩
/-- an array of kind a: its sort, its length -/
def jx_ka (a s len : Nat) : Bool := decide ((jx_so a).1 = s) && decide ((jx_so a).2.2 = len) && decide (15 < a) && decide (len < 2147483648)
theorem jx_ka_of {a s len : Nat} (h : jx_ka a s len = true) : jx_so a = (s, (jx_so a).2.1, len) ∧ 15 < a ∧ len < 2147483648 := by
  simp only [jx_ka, Bool.and_eq_true, decide_eq_true_eq] at h
  refine ⟨?_, h.1.2, h.2⟩
  rw [← h.1.1.1, ← h.1.1.2]
theorem jr_iald {T : jx_P} {Q : Option jx_V → jx_H → Prop} {kc ks n : Nat} {ls : List (Option jx_V)} {st : List jx_V} {h : jx_H} {a i m len : Nat} {j : Int32} (hc : jx_at (jm_k (jt_Y T)) n = some (jx_o 63)) (ht : jx_ka a 1 len = true) (hj : j = nI m) (hm : m < len) (k : jx_W T Q kc ks (n + 1) ls (jv_i (jh_I h a i m) :: st) h) : jx_W T Q kc ks n ls (jv_i j :: jv_r a i :: st) h := by
  intro g p l e R s mI args below meth c C H locs lr pc Rp S L V St N0 hp
  obtain ⟨hx, hb, hml, hr, hown, hts, hlk, hnm, hK, hE, hg1, hR, hck, hal⟩ := id C
  obtain ⟨hd, hnx, hsd⟩ := jx_step hck hc rfl hp
  obtain ⟨hso, h15, hlen⟩ := jx_ka_of ht
  obtain ⟨q, hqn, hq⟩ := jx_lr_at St.2.1 (Or.inr h15)
  have hcv := jx_cv_of g hq
  have hat := Rp.1 q _ (jx_wd_at hq hqn)
  rw [jx_en_I hso (by decide) (by decide)] at hat
  obtain ⟨hin, hcl⟩ := jx_clamp hm hlen hj
  rw [List.map_cons, List.map_cons, hcv]
  refine va_iald hx hb hK Rp.1 q 1 (by rw [jx_wd_at hq hqn, jx_en_I hso (by decide) (by decide)]) (jx_tys_at (by decide)) hin hd ?_
  rw [hcl]
  exact (k g p l e R s mI args below meth c C H locs lr _ Rp S L V ⟨trivial, St.2.2⟩ N0 (hnx rfl))
theorem jr_bald {T : jx_P} {Q : Option jx_V → jx_H → Prop} {kc ks n : Nat} {ls : List (Option jx_V)} {st : List jx_V} {h : jx_H} {a i m len : Nat} {j : Int32} (hc : jx_at (jm_k (jt_Y T)) n = some (jx_o 64)) (ht : jx_ka a 2 len = true) (hj : j = nI m) (hm : m < len) (k : jx_W T Q kc ks (n + 1) ls (jv_i (jh_I h a i m) :: st) h) : jx_W T Q kc ks n ls (jv_i j :: jv_r a i :: st) h := by
  intro g p l e R s mI args below meth c C H locs lr pc Rp S L V St N0 hp
  obtain ⟨hx, hb, hml, hr, hown, hts, hlk, hnm, hK, hE, hg1, hR, hck, hal⟩ := id C
  obtain ⟨hd, hnx, hsd⟩ := jx_step hck hc rfl hp
  obtain ⟨hso, h15, hlen⟩ := jx_ka_of ht
  obtain ⟨q, hqn, hq⟩ := jx_lr_at St.2.1 (Or.inr h15)
  have hcv := jx_cv_of g hq
  have hat := Rp.1 q _ (jx_wd_at hq hqn)
  rw [jx_en_I hso (by decide) (by decide)] at hat
  obtain ⟨hin, hcl⟩ := jx_clamp hm hlen hj
  rw [List.map_cons, List.map_cons, hcv]
  refine va_bald hx hb hK Rp.1 q 2 (by rw [jx_wd_at hq hqn, jx_en_I hso (by decide) (by decide)]) (jx_tys_at (by decide)) hin hd ?_
  rw [hcl]
  exact (k g p l e R s mI args below meth c C H locs lr _ Rp S L V ⟨trivial, St.2.2⟩ N0 (hnx rfl))
theorem jr_zald {T : jx_P} {Q : Option jx_V → jx_H → Prop} {kc ks n : Nat} {ls : List (Option jx_V)} {st : List jx_V} {h : jx_H} {a i m len : Nat} {j : Int32} (hc : jx_at (jm_k (jt_Y T)) n = some (jx_o 64)) (ht : jx_ka a 3 len = true) (hj : j = nI m) (hm : m < len) (k : jx_W T Q kc ks (n + 1) ls (jv_i (jh_I h a i m) :: st) h) : jx_W T Q kc ks n ls (jv_i j :: jv_r a i :: st) h := by
  intro g p l e R s mI args below meth c C H locs lr pc Rp S L V St N0 hp
  obtain ⟨hx, hb, hml, hr, hown, hts, hlk, hnm, hK, hE, hg1, hR, hck, hal⟩ := id C
  obtain ⟨hd, hnx, hsd⟩ := jx_step hck hc rfl hp
  obtain ⟨hso, h15, hlen⟩ := jx_ka_of ht
  obtain ⟨q, hqn, hq⟩ := jx_lr_at St.2.1 (Or.inr h15)
  have hcv := jx_cv_of g hq
  have hat := Rp.1 q _ (jx_wd_at hq hqn)
  rw [jx_en_I hso (by decide) (by decide)] at hat
  obtain ⟨hin, hcl⟩ := jx_clamp hm hlen hj
  rw [List.map_cons, List.map_cons, hcv]
  refine va_zald hx hb hK Rp.1 q 3 (by rw [jx_wd_at hq hqn, jx_en_I hso (by decide) (by decide)]) (jx_tys_at (by decide)) hin hd ?_
  rw [hcl]
  exact (k g p l e R s mI args below meth c C H locs lr _ Rp S L V ⟨trivial, St.2.2⟩ N0 (hnx rfl))
theorem jr_lald {T : jx_P} {Q : Option jx_V → jx_H → Prop} {kc ks n : Nat} {ls : List (Option jx_V)} {st : List jx_V} {h : jx_H} {a i m len : Nat} {j : Int32} (hc : jx_at (jm_k (jt_Y T)) n = some (jx_o 65)) (ht : jx_ka a 4 len = true) (hj : j = nI m) (hm : m < len) (k : jx_W T Q kc ks (n + 1) ls (jv_l (jh_L h a i m) :: st) h) : jx_W T Q kc ks n ls (jv_i j :: jv_r a i :: st) h := by
  intro g p l e R s mI args below meth c C H locs lr pc Rp S L V St N0 hp
  obtain ⟨hx, hb, hml, hr, hown, hts, hlk, hnm, hK, hE, hg1, hR, hck, hal⟩ := id C
  obtain ⟨hd, hnx, hsd⟩ := jx_step hck hc rfl hp
  obtain ⟨hso, h15, hlen⟩ := jx_ka_of ht
  obtain ⟨q, hqn, hq⟩ := jx_lr_at St.2.1 (Or.inr h15)
  have hcv := jx_cv_of g hq
  have hat := Rp.1 q _ (jx_wd_at hq hqn)
  rw [jx_en_L hso] at hat
  obtain ⟨hin, hcl⟩ := jx_clamp hm hlen hj
  rw [List.map_cons, List.map_cons, hcv]
  refine va_lald hx hb hK Rp.1 q 4 (by rw [jx_wd_at hq hqn, jx_en_L hso]) (jx_tys_at (by decide)) hin hd ?_
  rw [hcl]
  exact (k g p l e R s mI args below meth c C H locs lr _ Rp S L V ⟨trivial, St.2.2⟩ N0 (hnx rfl))
theorem jr_aald {T : jx_P} {Q : Option jx_V → jx_H → Prop} {kc ks n : Nat} {ls : List (Option jx_V)} {st : List jx_V} {h : jx_H} {a i m len so tk : Nat} {tf : Nat → Nat → Nat} {j : Int32} (hc : jx_at (jm_k (jt_Y T)) n = some (jx_o 66)) (ht : jx_ka a so len = true) (hs : (decide (4 < so) && decide (so < 8)) = true) (he : jx_rg a = (tk, tf)) (hk : (decide (tk < 12) || decide (15 < tk)) = true) (hj : j = nI m) (hm : m < len) (hM : jt_al T = false ∨ jh_M h a i m ≠ 0) (k : jx_W T Q kc ks (n + 1) ls (jv_r tk (tf i m) :: st) h) : jx_W T Q kc ks n ls (jv_i j :: jv_r a i :: st) h := by
  intro g p l e R s mI args below meth c C H locs lr pc Rp S L V St N0 hp
  obtain ⟨hx, hb, hml, hr, hown, hts, hlk, hnm, hK, hE, hg1, hR, hck, hal⟩ := id C
  obtain ⟨hd, hnx, hsd⟩ := jx_step hck hc rfl hp
  have hk' : tk < 12 ∨ 15 < tk := by simpa using hk
  have hs' : 4 < so ∧ so < 8 := by simpa using hs
  obtain ⟨hso, h15, hlen⟩ := jx_ka_of ht
  obtain ⟨q, hqn, hq⟩ := jx_lr_at St.2.1 (Or.inr h15)
  have hcv := jx_cv_of g hq
  have hat := Rp.1 q _ (jx_wd_at hq hqn)
  rw [jx_en_R hso hs'.1] at hat
  obtain ⟨hin, hcl⟩ := jx_clamp hm hlen hj
  have hvh := (Rp.2.2.2.2 q a i hqn hq).2.2 (by rw [hso]; exact hs'.1) m (by rw [hso]; exact hm)
  have hM' : jh_M h a i m ≠ 0 := hM.elim (fun q => hvh.2 q) id
  have hlr := hvh.1 hM'
  rw [he] at hlr
  have hlr : jx_lr (jt_sd T) (jh_n h) tk (tf i m) := hlr
  have hat : H[g.1 + q]? = some (vp_cell (g.2.2.1 so) (len, .inr (.inr (.inr (.inr (jx_rv (jt_sd T) g h a i)))))) := hat
  have hlt : j.toNatClampNeg < len := by rw [hcl]; exact hm
  rw [List.map_cons, List.map_cons, hcv]
  refine W.aald (v := jx_cv (jt_sd T) g (jv_r tk (tf i m))) (ty := jx_et so) hx hb hat ((hK.2 so _ (jx_tys_at hs'.2)).1 len (fun j => va_rf (jx_rv (jt_sd T) g h a i j))) (by rcases (show so = 5 ∨ so = 6 ∨ so = 7 by omega) with rfl | rfl | rfl <;> rfl) (fun q => by cases q) (by show ¬ (j < 0 ∨ (arrV _ _ _).slots.size ≤ _); rw [arrV_size]; exact hin) (by
    show (arrV _ _ _).slots[_]? = _
    rw [arrV_read _ _ hlt, hcl, jx_ref_t hk' hlr]
    simp [jx_rv, hM', he, va_rf]) rfl rfl hd ?_
  exact (k g p l e R s mI args below meth c C H locs lr _ Rp S L V ⟨hlr, St.2.2⟩ N0 (hnx rfl))
theorem jr_iast {T : jx_P} {Q : Option jx_V → jx_H → Prop} {kc ks n : Nat} {ls : List (Option jx_V)} {st : List jx_V} {h : jx_H} {a i m len : Nat} {j : Int32} {x : Int32} (hc : jx_at (jm_k (jt_Y T)) n = some (jx_o 67)) (ht : jx_ka a 1 len = true) (hj : j = nI m) (hm : m < len) (k : jx_W T Q kc ks (n + 1) ls st (ju_I h a i (upd (jh_I h a i) m x))) : jx_W T Q kc ks n ls (jv_i x :: jv_i j :: jv_r a i :: st) h := by
  intro g p l e R s mI args below meth c C H locs lr pc Rp S L V St N0 hp
  obtain ⟨hx, hb, hml, hr, hown, hts, hlk, hnm, hK, hE, hg1, hR, hck, hal⟩ := id C
  obtain ⟨hd, hnx, hsd⟩ := jx_step hck hc rfl hp
  obtain ⟨hso, h15, hlen⟩ := jx_ka_of ht
  obtain ⟨q, hqn, hq⟩ := jx_lr_at St.2.2.1 (Or.inr h15)
  have hcv := jx_cv_of g hq
  have hat := Rp.1 q _ (jx_wd_at hq hqn)
  rw [jx_en_I hso (by decide) (by decide)] at hat
  obtain ⟨hin, hcl⟩ := jx_clamp hm hlen hj
  have hat : H[g.1 + q]? = some (vp_cell (g.2.2.1 1) (len, .inl (jh_I h a i))) := hat
  rw [List.map_cons, List.map_cons, List.map_cons, hcv]
  refine W.iast hx hb hat ((hK.2 1 _ (jx_tys_at (by decide))).1 len (fun j => .int (jh_I h a i j))) (fun q => by cases q) (by show ¬ (j < 0 ∨ (arrV _ _ _).slots.size ≤ _); rw [arrV_size]; exact hin) rfl rfl hd fun H1 e1 hz oq => ?_
  have hat1 : va_at g.2.1 jx_cl (g.1 + q, jx_en (jt_sd T) g (ju_I h a i (upd (jh_I h a i) m x)) a i) H1 := by
    rw [jx_en_I hso (by decide) (by decide)]
    show H1[g.1 + q]? = some (vp_cell _ (_, _))
    rw [e1, hcl]
    simp only [vp_cell_i, vp_cell_l, jg_II, jg_LL, arrV_store]
    congr 2
    funext x
    by_cases hxm : x = m
    · subst hxm
      simp [updV, jh_I, jh_L, ju_I, ju_L, upd, vp_updL, narrow]
    · simp [updV, jh_I, jh_L, ju_I, ju_L, upd, vp_updL, narrow, hxm]
  exact (k g p l e R s mI args below meth c C H1 _ lr _ (jx_write Rp hq hqn rfl (fun x y hxy => by first | exact jx_same_I hxy | exact jx_same_L hxy | exact jx_same_M hxy) hat1 hz oq Rp.2.2.2.2) (jx_SP Rp hqn S hz oq) L V St.2.2.2 N0 (hnx rfl))
theorem jr_bast {T : jx_P} {Q : Option jx_V → jx_H → Prop} {kc ks n : Nat} {ls : List (Option jx_V)} {st : List jx_V} {h : jx_H} {a i m len : Nat} {j : Int32} {x : Int32} (hc : jx_at (jm_k (jt_Y T)) n = some (jx_o 68)) (ht : jx_ka a 2 len = true) (hj : j = nI m) (hm : m < len) (k : jx_W T Q kc ks (n + 1) ls st (ju_I h a i (upd (jh_I h a i) m x.toInt8.toInt32))) : jx_W T Q kc ks n ls (jv_i x :: jv_i j :: jv_r a i :: st) h := by
  intro g p l e R s mI args below meth c C H locs lr pc Rp S L V St N0 hp
  obtain ⟨hx, hb, hml, hr, hown, hts, hlk, hnm, hK, hE, hg1, hR, hck, hal⟩ := id C
  obtain ⟨hd, hnx, hsd⟩ := jx_step hck hc rfl hp
  obtain ⟨hso, h15, hlen⟩ := jx_ka_of ht
  obtain ⟨q, hqn, hq⟩ := jx_lr_at St.2.2.1 (Or.inr h15)
  have hcv := jx_cv_of g hq
  have hat := Rp.1 q _ (jx_wd_at hq hqn)
  rw [jx_en_I hso (by decide) (by decide)] at hat
  obtain ⟨hin, hcl⟩ := jx_clamp hm hlen hj
  have hat : H[g.1 + q]? = some (vp_cell (g.2.2.1 2) (len, .inl (jh_I h a i))) := hat
  rw [List.map_cons, List.map_cons, List.map_cons, hcv]
  refine W.bast hx hb hat ((hK.2 2 _ (jx_tys_at (by decide))).1 len (fun j => .int (jh_I h a i j))) (fun q => by cases q) (by show ¬ (j < 0 ∨ (arrV _ _ _).slots.size ≤ _); rw [arrV_size]; exact hin) rfl rfl hd fun H1 e1 hz oq => ?_
  have hat1 : va_at g.2.1 jx_cl (g.1 + q, jx_en (jt_sd T) g (ju_I h a i (upd (jh_I h a i) m x.toInt8.toInt32)) a i) H1 := by
    rw [jx_en_I hso (by decide) (by decide)]
    show H1[g.1 + q]? = some (vp_cell _ (_, _))
    rw [e1, hcl]
    simp only [vp_cell_i, vp_cell_l, jg_II, jg_LL, arrV_store]
    congr 2
    funext x
    by_cases hxm : x = m
    · subst hxm
      simp [updV, jh_I, jh_L, ju_I, ju_L, upd, vp_updL, narrow]
    · simp [updV, jh_I, jh_L, ju_I, ju_L, upd, vp_updL, narrow, hxm]
  exact (k g p l e R s mI args below meth c C H1 _ lr _ (jx_write Rp hq hqn rfl (fun x y hxy => by first | exact jx_same_I hxy | exact jx_same_L hxy | exact jx_same_M hxy) hat1 hz oq Rp.2.2.2.2) (jx_SP Rp hqn S hz oq) L V St.2.2.2 N0 (hnx rfl))
theorem jr_zast {T : jx_P} {Q : Option jx_V → jx_H → Prop} {kc ks n : Nat} {ls : List (Option jx_V)} {st : List jx_V} {h : jx_H} {a i m len : Nat} {j : Int32} {x : Int32} (hc : jx_at (jm_k (jt_Y T)) n = some (jx_o 68)) (ht : jx_ka a 3 len = true) (hj : j = nI m) (hm : m < len) (k : jx_W T Q kc ks (n + 1) ls st (ju_I h a i (upd (jh_I h a i) m (x &&& 1)))) : jx_W T Q kc ks n ls (jv_i x :: jv_i j :: jv_r a i :: st) h := by
  intro g p l e R s mI args below meth c C H locs lr pc Rp S L V St N0 hp
  obtain ⟨hx, hb, hml, hr, hown, hts, hlk, hnm, hK, hE, hg1, hR, hck, hal⟩ := id C
  obtain ⟨hd, hnx, hsd⟩ := jx_step hck hc rfl hp
  obtain ⟨hso, h15, hlen⟩ := jx_ka_of ht
  obtain ⟨q, hqn, hq⟩ := jx_lr_at St.2.2.1 (Or.inr h15)
  have hcv := jx_cv_of g hq
  have hat := Rp.1 q _ (jx_wd_at hq hqn)
  rw [jx_en_I hso (by decide) (by decide)] at hat
  obtain ⟨hin, hcl⟩ := jx_clamp hm hlen hj
  have hat : H[g.1 + q]? = some (vp_cell (g.2.2.1 3) (len, .inl (jh_I h a i))) := hat
  rw [List.map_cons, List.map_cons, List.map_cons, hcv]
  refine W.zast hx hb hat ((hK.2 3 _ (jx_tys_at (by decide))).1 len (fun j => .int (jh_I h a i j))) (fun q => by cases q) (by show ¬ (j < 0 ∨ (arrV _ _ _).slots.size ≤ _); rw [arrV_size]; exact hin) rfl rfl hd fun H1 e1 hz oq => ?_
  have hat1 : va_at g.2.1 jx_cl (g.1 + q, jx_en (jt_sd T) g (ju_I h a i (upd (jh_I h a i) m (x &&& 1))) a i) H1 := by
    rw [jx_en_I hso (by decide) (by decide)]
    show H1[g.1 + q]? = some (vp_cell _ (_, _))
    rw [e1, hcl]
    simp only [vp_cell_i, vp_cell_l, jg_II, jg_LL, arrV_store]
    congr 2
    funext x
    by_cases hxm : x = m
    · subst hxm
      simp [updV, jh_I, jh_L, ju_I, ju_L, upd, vp_updL, narrow]
    · simp [updV, jh_I, jh_L, ju_I, ju_L, upd, vp_updL, narrow, hxm]
  exact (k g p l e R s mI args below meth c C H1 _ lr _ (jx_write Rp hq hqn rfl (fun x y hxy => by first | exact jx_same_I hxy | exact jx_same_L hxy | exact jx_same_M hxy) hat1 hz oq Rp.2.2.2.2) (jx_SP Rp hqn S hz oq) L V St.2.2.2 N0 (hnx rfl))
theorem jr_last {T : jx_P} {Q : Option jx_V → jx_H → Prop} {kc ks n : Nat} {ls : List (Option jx_V)} {st : List jx_V} {h : jx_H} {a i m len : Nat} {j : Int32} {x : Int64} (hc : jx_at (jm_k (jt_Y T)) n = some (jx_o 69)) (ht : jx_ka a 4 len = true) (hj : j = nI m) (hm : m < len) (k : jx_W T Q kc ks (n + 1) ls st (ju_L h a i (vp_updL (jh_L h a i) m x))) : jx_W T Q kc ks n ls (jv_l x :: jv_i j :: jv_r a i :: st) h := by
  intro g p l e R s mI args below meth c C H locs lr pc Rp S L V St N0 hp
  obtain ⟨hx, hb, hml, hr, hown, hts, hlk, hnm, hK, hE, hg1, hR, hck, hal⟩ := id C
  obtain ⟨hd, hnx, hsd⟩ := jx_step hck hc rfl hp
  obtain ⟨hso, h15, hlen⟩ := jx_ka_of ht
  obtain ⟨q, hqn, hq⟩ := jx_lr_at St.2.2.1 (Or.inr h15)
  have hcv := jx_cv_of g hq
  have hat := Rp.1 q _ (jx_wd_at hq hqn)
  rw [jx_en_L hso] at hat
  obtain ⟨hin, hcl⟩ := jx_clamp hm hlen hj
  have hat : H[g.1 + q]? = some (vp_cell (g.2.2.1 4) (len, .inr (.inl (jh_L h a i)))) := hat
  rw [List.map_cons, List.map_cons, List.map_cons, hcv]
  refine W.last hx hb hat ((hK.2 4 _ (jx_tys_at (by decide))).1 len (fun j => .long (jh_L h a i j))) (fun q => by cases q) (by show ¬ (j < 0 ∨ (arrV _ _ _).slots.size ≤ _); rw [arrV_size]; exact hin) rfl rfl hd fun H1 e1 hz oq => ?_
  have hat1 : va_at g.2.1 jx_cl (g.1 + q, jx_en (jt_sd T) g (ju_L h a i (vp_updL (jh_L h a i) m x)) a i) H1 := by
    rw [jx_en_L hso]
    show H1[g.1 + q]? = some (vp_cell _ (_, _))
    rw [e1, hcl]
    simp only [vp_cell_i, vp_cell_l, jg_II, jg_LL, arrV_store]
    congr 2
    funext x
    by_cases hxm : x = m
    · subst hxm
      simp [updV, jh_I, jh_L, ju_I, ju_L, upd, vp_updL, narrow]
    · simp [updV, jh_I, jh_L, ju_I, ju_L, upd, vp_updL, narrow, hxm]
  exact (k g p l e R s mI args below meth c C H1 _ lr _ (jx_write Rp hq hqn rfl (fun x y hxy => by first | exact jx_same_I hxy | exact jx_same_L hxy | exact jx_same_M hxy) hat1 hz oq Rp.2.2.2.2) (jx_SP Rp hqn S hz oq) L V St.2.2.2 N0 (hnx rfl))
theorem jr_alen {T : jx_P} {Q : Option jx_V → jx_H → Prop} {kc ks n : Nat} {ls : List (Option jx_V)} {st : List jx_V} {h : jx_H} {a i len so : Nat} {v : Int32} (hc : jx_at (jm_k (jt_Y T)) n = some (jx_o 71)) (ht : jx_ka a so len = true) (hs : (decide (0 < so) && decide (so < 8)) = true) (hv : nI len = v) (k : jx_W T Q kc ks (n + 1) ls (jv_i v :: st) h) : jx_W T Q kc ks n ls (jv_r a i :: st) h := by
  intro g p l e R s mI args below meth c C H locs lr pc Rp S L V St N0 hp
  obtain ⟨hx, hb, hml, hr, hown, hts, hlk, hnm, hK, hE, hg1, hR, hck, hal⟩ := id C
  obtain ⟨hd, hnx, hsd⟩ := jx_step hck hc rfl hp
  have hs' : 0 < so ∧ so < 8 := by simpa using hs
  obtain ⟨hso, h15, hlen⟩ := jx_ka_of ht
  obtain ⟨q, hqn, hq⟩ := jx_lr_at St.1 (Or.inr h15)
  have hcv := jx_cv_of g hq
  have hen : ∃ x : vp_A, jx_en (jt_sd T) g h a i = .inl (g.2.2.1 so, x) ∧ x.1 = len := by
    rcases (show so < 4 ∨ so = 4 ∨ 4 < so by omega) with h4 | h4 | h4
    · exact ⟨_, jx_en_I hso hs'.1 h4, rfl⟩
    · subst h4; exact ⟨_, jx_en_L hso, rfl⟩
    · exact ⟨_, jx_en_R hso h4, rfl⟩
  obtain ⟨x, hen, hxl⟩ := hen
  rw [List.map_cons, hcv]
  exact va_alen hx hb hK Rp.1 q so (x := x) (by rw [jx_wd_at hq hqn, hen]) (jx_tys_at hs'.2) (by rw [hxl]; exact hv) hd (k g p l e R s mI args below meth c C H locs lr _ Rp S L V ⟨trivial, St.2⟩ N0 (hnx rfl))
theorem jr_tsw {T : jx_P} {Q : Option jx_V → jx_H → Prop} {kc ks n : Nat} {ls : List (Option jx_V)} {st : List jx_V} {h : jx_H} {a b : Nat} {z : Int} {sw : List (Int × Nat × Int)} {x : Int32} (hc : jx_at (jm_k (jt_Y T)) n = some (jx_os 53 a b z sw)) (k : jx_sw x.toInt (fun t => jx_W T Q kc ks t ls st h) b sw) : jx_W T Q kc ks n ls (jv_i x :: st) h := by
  intro g p l e R s mI args below meth c C H locs lr pc Rp S L V St N0 hp
  obtain ⟨hx, hb, hml, hr, hown, hts, hlk, hnm, hK, hE, hg1, hR, hck, hal⟩ := id C
  obtain ⟨hd, hnx, hsd⟩ := jx_step hck hc rfl hp
  have hsd : (jx_to (jm_q (jt_Y T)) pc b z && sw.all (fun x => jx_to (jm_q (jt_Y T)) pc x.2.1 x.2.2) && decide (0 < sw.length) && (List.range sw.length).all (fun j => decide ((jx_at sw j).map Prod.fst = some ((sw.head?.map Prod.fst).getD 0 + (j : Int))))) = true := hsd
  simp only [Bool.and_eq_true, decide_eq_true_eq] at hsd
  obtain ⟨⟨⟨hs1, hs2⟩, hs3⟩, hs4⟩ := hsd
  have hj : ∀ j, j < sw.length → ∃ t o, jx_at sw j = some ((sw.head?.map Prod.fst).getD 0 + (j : Int), t, o) ∧ (t, o) = ((sw[j]?.map Prod.snd).getD (0, 0)) ∧ sw[j]? = some ((sw.head?.map Prod.fst).getD 0 + (j : Int), t, o) := by
    have hat : ∀ {l : List (Int × Nat × Int)} {j : Nat}, jx_at l j = l[j]? := by
      intro l
      induction l with
      | nil => intro j; cases j <;> rfl
      | cons a l ih => intro j; cases j with
        | zero => rfl
        | succ j => exact ih
    intro j hj
    have h1 := of_decide_eq_true (List.all_eq_true.mp hs4 j (List.mem_range.mpr hj))
    rw [hat] at h1
    obtain ⟨e, he⟩ : ∃ e, sw[j]? = some e := ⟨sw[j], List.getElem?_eq_getElem hj⟩
    obtain ⟨e1, t, o⟩ := e
    rw [he] at h1
    have h2 : e1 = _ := Option.some.inj h1
    subst h2
    exact ⟨t, o, by rw [hat, he], by rw [he]; rfl, he⟩
  generalize hlo : (sw.head?.map Prod.fst).getD 0 = lo at *
  have hhi : (sw.getLast?.map Prod.fst).getD 0 = lo + ((sw.length - 1 : Nat) : Int) := by
    obtain ⟨t, o, -, -, h3⟩ := hj (sw.length - 1) (by omega)
    rw [List.getLast?_eq_getElem?, h3]
    rfl
  have hd : decode (jt_Y T).2.1 pc = .ok (.tableswitch z ((sw.head?.map Prod.fst).getD 0) ((sw.getLast?.map Prod.fst).getD 0) (sw.map (fun x => x.2.2)).toArray, a) := hd
  rw [hlo, hhi] at hd
  by_cases hin : x.toInt < lo ∨ lo + ((sw.length - 1 : Nat) : Int) < x.toInt
  · obtain ⟨t, ht, hz⟩ := jx_target hs1
    have hk : jx_W T Q kc ks b ls st h := jx_sw_out k (fun e he hne => by
      obtain ⟨j, hjl, hj2⟩ := List.mem_iff_getElem.mp he
      obtain ⟨t, o, -, -, h3⟩ := hj j hjl
      rw [List.getElem?_eq_getElem hjl, hj2] at h3
      cases h3
      have : lo + (j : Int) = x.toInt := hne
      omega)
    exact lv_tableOut hx hb hd hin hz (hk g p l e R s mI args below meth c C H locs lr _ Rp S L V St.2 N0 ht)
  · have hin' : lo ≤ x.toInt ∧ x.toInt ≤ lo + ((sw.length - 1 : Nat) : Int) := by omega
    have hjl : (x.toInt - lo).toNat < sw.length := by omega
    obtain ⟨t0, o0, -, -, h3⟩ := hj _ hjl
    obtain ⟨en, he, he1, he2, -⟩ := jx_sw_in k ⟨_, List.mem_of_getElem? h3, by show lo + (((x.toInt - lo).toNat : Nat) : Int) = x.toInt; omega⟩
    obtain ⟨j, hjl2, hj2⟩ := List.mem_iff_getElem.mp he
    obtain ⟨t2, o2, -, -, h4⟩ := hj j hjl2
    rw [List.getElem?_eq_getElem hjl2, hj2] at h4
    cases h4
    have hjj : j = (x.toInt - lo).toNat := by have : lo + (j : Int) = x.toInt := he1; omega
    subst hjj
    have h5 := List.all_eq_true.mp hs2 _ he
    obtain ⟨t, ht, hz⟩ := jx_target h5
    refine lv_tableIn (off := o2) hx hb hd (by omega) (by omega) ?_ hz (he2 g p l e R s mI args below meth c C H locs lr _ Rp S L V St.2 N0 ht)
    simp only [List.getElem?_toArray, List.getElem?_map]
    rw [List.getElem?_eq_getElem hjl2, hj2]
    rfl
theorem jx_off_out {x d : Int} : ∀ {l : List (Int × Nat × Int)}, (∀ e ∈ l, e.1 ≠ x) → Op.lookupswitch.offset (l.map (fun e => (e.1, e.2.2))) d x = d
  | [], _ => rfl
  | (key, t, o) :: l, h => by
    show (if key = x then o else _) = d
    rw [if_neg (h _ List.mem_cons_self)]
    exact jx_off_out (fun e he => h e (List.mem_cons_of_mem _ he))
theorem jx_off_in {x d d' : Int} : ∀ {l : List (Int × Nat × Int)}, (∃ e ∈ l, e.1 = x) → Op.lookupswitch.offset (l.map (fun e => (e.1, e.2.2))) d x = Op.lookupswitch.offset (l.map (fun e => (e.1, e.2.2))) d' x
  | [], h => by obtain ⟨e, he, -⟩ := h; cases he
  | (key, t, o) :: l, h => by
    show (if key = x then o else _) = (if key = x then o else _)
    by_cases hk : key = x
    · rw [if_pos hk, if_pos hk]
    · rw [if_neg hk, if_neg hk]
      exact jx_off_in (by
        obtain ⟨e, he, h1⟩ := h
        rcases List.mem_cons.mp he with rfl | he
        · exact absurd h1 hk
        · exact ⟨e, he, h1⟩)
theorem jr_lsw {T : jx_P} {Q : Option jx_V → jx_H → Prop} {kc ks n : Nat} {ls : List (Option jx_V)} {st : List jx_V} {h : jx_H} {a b : Nat} {z : Int} {sw : List (Int × Nat × Int)} {x : Int32} (hc : jx_at (jm_k (jt_Y T)) n = some (jx_os 54 a b z sw)) (k : jx_sw x.toInt (fun t => jx_W T Q kc ks t ls st h) b sw) : jx_W T Q kc ks n ls (jv_i x :: st) h := by
  intro g p l e R s mI args below meth c C H locs lr pc Rp S L V St N0 hp
  obtain ⟨hx, hb, hml, hr, hown, hts, hlk, hnm, hK, hE, hg1, hR, hck, hal⟩ := id C
  obtain ⟨hd, hnx, hsd⟩ := jx_step hck hc rfl hp
  have hsd : (jx_to (jm_q (jt_Y T)) pc b z && sw.all (fun x => jx_to (jm_q (jt_Y T)) pc x.2.1 x.2.2) && ((sw.map (fun x => (x.1, x.2.2))).zip ((sw.map (fun x => (x.1, x.2.2))).drop 1)).all (fun (a, next) => a.1 < next.1)) = true := hsd
  simp only [Bool.and_eq_true] at hsd
  obtain ⟨⟨hs1, hs2⟩, hs3⟩ := hsd
  have hd : decode (jt_Y T).2.1 pc = .ok (.lookupswitch z (sw.map (fun x => (x.1, x.2.2))).toArray, a) := hd
  by_cases hin : ∃ en ∈ sw, en.1 = x.toInt
  · obtain ⟨en, he, he1, he2, he3⟩ := jx_sw_in k hin
    obtain ⟨t, ht, hz⟩ := jx_target (List.all_eq_true.mp hs2 _ he)
    exact lv_lookup hx hb hd (by simpa using hs3) (by rw [List.toList_toArray, jx_off_in hin (d' := 0)]; exact he3) hz (he2 g p l e R s mI args below meth c C H locs lr _ Rp S L V St.2 N0 ht)
  · have hno : ∀ en ∈ sw, en.1 ≠ x.toInt := fun en he h9 => hin ⟨en, he, h9⟩
    obtain ⟨t, ht, hz⟩ := jx_target hs1
    have hk : jx_W T Q kc ks b ls st h := jx_sw_out k hno
    exact lv_lookup hx hb hd (by simpa using hs3) (by rw [List.toList_toArray]; exact jx_off_out hno) hz (hk g p l e R s mI args below meth c C H locs lr _ Rp S L V St.2 N0 ht)
