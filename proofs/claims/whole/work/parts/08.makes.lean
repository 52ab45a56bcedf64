def ju_z (h : jx_H) (k i : Nat) : jx_H := (fun a b => if a = k ∧ b = i then fun _ => 0 else h.1 a b, fun a b => if a = k ∧ b = i then fun _ => 0 else h.2.1 a b, fun a b => if a = k ∧ b = i then fun _ => 0 else h.2.2.1 a b, h.2.2.2 + 1)
theorem jz_n (h : jx_H) (k i : Nat) : jh_n (ju_z h k i) = jh_n h + 1 := rfl
theorem jz_I (h : jx_H) (k i : Nat) : jh_I (ju_z h k i) k i = fun _ => 0 := if_pos ⟨rfl, rfl⟩
theorem jz_L (h : jx_H) (k i : Nat) : jh_L (ju_z h k i) k i = fun _ => 0 := if_pos ⟨rfl, rfl⟩
theorem jz_M (h : jx_H) (k i : Nat) : jh_M (ju_z h k i) k i = fun _ => 0 := if_pos ⟨rfl, rfl⟩
theorem jz_same {h : jx_H} {k i a b : Nat} (hn : ¬ (a = k ∧ b = i)) : jx_same h (ju_z h k i) a b := ⟨if_neg hn, if_neg hn, if_neg hn⟩
theorem jx_vh_z {sd k i : Nat} {h : jx_H} (hv : jx_vh sd true h) (hq : (jx_cells sd)[jh_n h]? = some (k, i)) : jx_vh sd true (ju_z h k i) := by
  intro q a b hqn hqc
  by_cases e : q = jh_n h
  · subst e
    have e2 := Option.some.inj (hqc.symm.trans hq)
    cases e2
    rw [jz_M]
    exact ⟨fun f _ _ => ⟨fun z => absurd rfl z, fun z => by cases z⟩, fun f _ _ z => absurd rfl z, fun _ j _ => ⟨fun z => absurd rfl z, fun z => by cases z⟩⟩
  · have hqn' : q < jh_n h + 1 := hqn
    have hl : q < jh_n h := by omega
    have hne : ¬ (a = k ∧ b = i) := by
      rintro ⟨rfl, rfl⟩
      exact e ((jx_cell_facts hqc).1.symm.trans (jx_cell_facts hq).1)
    obtain ⟨h1, h2, h3⟩ := hv q a b hl hqc
    rw [(jz_same (h := h) hne).2.2]
    have hm : jh_n h ≤ jh_n (ju_z h k i) := Nat.le_succ _
    exact ⟨fun f x y => ⟨fun z => jx_lr_mono hm ((h1 f x y).1 z), fun z => by cases z⟩, fun f x y z => jx_lr_mono hm (h2 f x y z), fun x j y => ⟨fun z => jx_lr_mono hm ((h3 x j y).1 z), fun z => by cases z⟩⟩
theorem jx_grow {sd k i : Nat} {g : jx_E} {h : jx_H} {H H1 : Heap} (Rp : jx_rp sd true g h H) (hq : (jx_cells sd)[jh_n h]? = some (k, i)) (hat : va_at g.2.1 jx_cl (g.1 + jh_n h, jx_en sd g (ju_z h k i) k i) H1) (hz : H1.size = H.size + 1) (oq : ∀ x : Nat, x < H.size → H1[x]? = H[x]?) : jx_rp sd true g (ju_z h k i) H1 := by
  obtain ⟨r1, r2, r3, r4, r5⟩ := Rp
  have hlt : jh_n h < (jx_cells sd).length := (List.getElem?_eq_some_iff.mp hq).1
  have hsz := r3 rfl
  refine ⟨?_, hlt, fun _ => by rw [hz, hsz, jz_n]; omega, fun e => (by cases e), jx_vh_z r5 hq⟩
  intro j x hj
  have hjl : j < jh_n h + 1 := by have := (List.getElem?_eq_some_iff.mp hj).1; rw [jx_wd_len] at this; exact this
  have hjc : j < (jx_cells sd).length := by omega
  have hcj : (jx_cells sd)[j]? = some ((jx_cells sd)[j].1, (jx_cells sd)[j].2) := List.getElem?_eq_getElem hjc
  rw [jx_wd_at (h := ju_z h k i) hcj hjl] at hj
  cases hj
  by_cases e : j = jh_n h
  · subst e
    have e3 := Option.some.inj (hcj.symm.trans hq)
    rw [show (jx_cells sd)[jh_n h].1 = k from congrArg Prod.fst e3, show (jx_cells sd)[jh_n h].2 = i from congrArg Prod.snd e3]
    exact hat
  · have hne : ¬ ((jx_cells sd)[j].1 = k ∧ (jx_cells sd)[j].2 = i) := by
      rintro ⟨e1, e2⟩
      rw [e1, e2] at hcj
      exact e ((jx_cell_facts hcj).1.symm.trans (jx_cell_facts hq).1)
    rw [jx_en_same (jz_same hne)]
    exact (r1 j _ (jx_wd_at hcj (by omega))).kept (oq _ (by show g.1 + j < H.size; omega))
theorem jx_SG {A : Nat → Prop} {H0 H H1 : Heap} {locs : List Loc} (S : va_S A H0 H locs) (hz : H1.size = H.size + 1) (oq : ∀ x : Nat, x < H.size → H1[x]? = H[x]?) : va_S A H0 H1 locs := ⟨Nat.le_trans S.1 (by omega), fun x h1 h2 => (oq x (Nat.lt_of_lt_of_le h1 S.1)).trans (S.2.1 x h1 h2), S.2.2⟩
theorem jx_dv {sd k i f : Nat} {g : jx_E} {h : jx_H} (hk : k < 12) (hf : f < jx_N k) : defaultValue (jx_ty k f) = jx_fv sd g (ju_z h k i) k i f := by
  have h1 := jx_fok_at hk hf
  unfold jx_fok at h1
  unfold jx_fv
  rw [jz_I, jz_L, jz_M]
  generalize jx_fi k f = x at *
  obtain ⟨t, u, w⟩ := x
  simp only [Bool.and_eq_true] at h1
  obtain ⟨-, h1⟩ := h1
  match t, h1 with
  | 0, h1 => simp only [Bool.and_eq_true, decide_eq_true_eq] at h1; rw [h1.1]; rfl
  | 1, h1 => simp only [Bool.and_eq_true, decide_eq_true_eq] at h1; rw [h1.1]; rfl
  | 3, h1 => simp only [Bool.and_eq_true, decide_eq_true_eq] at h1; rw [h1.1]; rfl
  | 4, h1 => simp only [Bool.and_eq_true] at h1; generalize jx_ty k f = y at *; cases y <;> first | rfl | (cases h1.1)
  | 5, h1 => simp only [Bool.and_eq_true] at h1; generalize jx_ty k f = y at *; cases y <;> first | rfl | (cases h1.1)
theorem jx_nf {k : Nat} (hk : 15 < k) (f : Nat) : jx_fi k f = (9, 0, fun _ _ => 0) := by
  unfold jx_fi
  have hl : jx_ft.length ≤ k := Nat.le_trans (Nat.le_of_ble_eq_true (show Nat.ble jx_ft.length 16 = true from rfl)) hk
  rw [show jx_ft.getD k [] = [] by rw [List.getD_eq_getElem?_getD, List.getElem?_eq_none hl]; rfl]
  rfl
theorem jx_nf4 {k : Nat} (hk : 15 < k) (f : Nat) : (jx_fi k f).1 ≠ 4 := by rw [jx_nf hk]; decide
theorem jx_nf5 {k : Nat} (hk : 15 < k) (f : Nat) : (jx_fi k f).1 ≠ 5 := by rw [jx_nf hk]; decide
theorem jx_dvl {sd k i : Nat} {g : jx_E} {h : jx_H} (hk : k < 12) : ∀ j, j < jx_N k → defaultValue (jx_ty k j) = vp_V ((List.range (jx_N k)).map (jx_fv sd g (ju_z h k i) k i)) j := by
  intro j hj
  rw [jx_dv (sd := sd) (g := g) (h := h) (i := i) hk hj]
  unfold vp_V
  simp [List.getD_eq_getElem?_getD, List.getElem?_range hj]
theorem jr_newa {T : jx_P} {Q : Option jx_V → jx_H → Prop} {kc ks n : Nat} {ls : List (Option jx_V)} {st : List jx_V} {h : jx_H} {t i a len : Nat} {x : Int32} (hc : jx_at (jm_k (jt_Y T)) n = some (jx_o1 73 t 0)) (hA : jt_al T = true) (ht4 : t < 4) (ht : jx_ka a (t + 1) len = true) (hb8 : len * 8 ≤ 536870912) (hxl : x = nI len) (hq : (jx_cells (jt_sd T))[jh_n h]? = some (a, i)) (hkc : kc + 1 ≤ jt_mc T) (hks : ks + len ≤ jt_ms T) (k : jx_W T Q (kc + 1) (ks + len) (n + 1) ls (jv_r a i :: st) (ju_z h a i)) : jx_W T Q kc ks n ls (jv_i x :: st) h := by
  intro g p l e R s mI args below meth c C H locs lr pc Rp S L V St N0 hp
  obtain ⟨hx, hb, hml, hr, hown, hts, hlk, hnm, hK, hE, hg1, hR, hck, hal⟩ := id C
  obtain ⟨hd, hnx, hsd⟩ := jx_step hck hc rfl hp
  obtain ⟨hso, h15, hlen⟩ := jx_ka_of ht
  have hword := hts _ (jx_word (w := .arrayClass (jx_et (t + 1))) hal hc List.mem_cons_self)
  have hty : newarray.typeOf (jx_ai t) = jx_et (t + 1) := by
    rcases (show t = 0 ∨ t = 1 ∨ t = 2 ∨ t = 3 by omega) with rfl | rfl | rfl | rfl <;> rfl
  have hd : decode (jt_Y T).2.1 pc = .ok (.newarray (jx_ai t), 2) := hd
  subst hxl
  have hzr := hA ▸ Rp
  have hsz : H.size = g.1 + jh_n h := Rp.2.2.1 hA
  have hcb : componentBytes (newarray.typeOf (jx_ai t)) ≤ 8 := by
    rcases (show t = 0 ∨ t = 1 ∨ t = 2 ∨ t = 3 by omega) with rfl | rfl | rfl | rfl <;> decide
  rw [List.map_cons]
  refine va_newaK (g := F0 mI pc lr (jx_cv (jt_sd T) g (jv_i (nI len)) :: st.map (jx_cv (jt_sd T) g))) (n := nI len) (N := len) hx hb (by rw [hty]; exact hword) rfl hd rfl (nI_pos (by omega)) (nI_clamp (by omega)) (Nat.le_trans (Nat.mul_le_mul_left _ hcb) hb8) (by rw [hR]; exact hkc) (by rw [hR]; exact hks) rfl fun H1 cA e1 z1 o1 hAr hNm => ?_
  have hcA : cA = g.2.2.1 (t + 1) := by
    have h2 := (hK.2 (t + 1) _ (jx_tys_at (by omega))).2
    rw [hty] at hNm
    have h3 : s.vm.findClass ("[" ++ (jx_et (t + 1)).toString) = some (g.2.2.1 (t + 1)) := by
      rcases (show t = 0 ∨ t = 1 ∨ t = 2 ∨ t = 3 by omega) with rfl | rfl | rfl | rfl <;> exact h2
    exact Option.some.inj (hNm.symm.trans h3)
  have hat1 : va_at g.2.1 jx_cl (g.1 + jh_n h, jx_en (jt_sd T) g (ju_z h a i) a i) H1 := by
    rcases (show t < 3 ∨ t = 3 by omega) with h3 | rfl
    · rw [jx_en_I hso (by omega) (by omega), jz_I]
      show H1[g.1 + jh_n h]? = some (vp_cell _ (_, _))
      rw [← hsz, e1, hcA]
      rcases (show t = 0 ∨ t = 1 ∨ t = 2 by omega) with rfl | rfl | rfl <;> rfl
    · rw [jx_en_L hso, jz_L]
      show H1[g.1 + jh_n h]? = some (vp_cell _ (_, _))
      rw [← hsz, e1, hcA]
      rfl
  have hcv := jx_cv_of g hq
  have kk := (k g p l e R s mI args below meth c C H1 locs lr _ (by rw [hA]; exact jx_grow hzr hq hat1 z1 o1) (jx_SG S z1 o1) L (jx_vl_mono (Nat.le_succ _) V) ⟨Or.inr (Or.inr (Or.inr ⟨_, Nat.lt_succ_self _, hq⟩)), jx_vs_mono (Nat.le_succ _) St.2⟩ (Nat.le_succ_of_le N0) (hnx rfl))
  rw [List.map_cons, hcv, ← hsz] at kk
  exact kk
theorem jr_new {T : jx_P} {Q : Option jx_V → jx_H → Prop} {kc ks n : Nat} {ls : List (Option jx_V)} {st : List jx_V} {h : jx_H} {ci i : Nat} {z : Int} (hc : jx_at (jm_k (jt_Y T)) n = some (jx_oz 72 ci 0 z)) (hA : jt_al T = true) (hci : ci < 12) (hq : (jx_cells (jt_sd T))[jh_n h]? = some (ci, i)) (hkc : kc + 1 ≤ jt_mc T) (hks : ks + jx_N ci ≤ jt_ms T) (k : jx_W T Q (kc + 1) (ks + jx_N ci) (n + 1) ls (jv_r ci i :: st) (ju_z h ci i)) : jx_W T Q kc ks n ls st h := by
  intro g p l e R s mI args below meth c C H locs lr pc Rp S L V St N0 hp
  obtain ⟨hx, hb, hml, hr, hown, hts, hlk, hnm, hK, hE, hg1, hR, hck, hal⟩ := id C
  obtain ⟨hd, hnx, hsd⟩ := jx_step hck hc rfl hp
  have w1 := hts _ (jx_word (w := .classLink (jt_Y T).1.cls z.toNat (jx_C ci)) hal hc List.mem_cons_self)
  have w2 := hts _ (jx_word (w := .instantiable (jx_C ci) (jx_N ci)) hal hc (List.mem_cons_of_mem _ List.mem_cons_self))
  have w3 := hts _ (jx_word (w := .initialized (jx_C ci)) hal hc (List.mem_cons_of_mem _ (List.mem_cons_of_mem _ List.mem_cons_self)))
  have hd : decode (jt_Y T).2.1 pc = .ok (.new z.toNat, 3) := hd
  have hzr := hA ▸ Rp
  have hsz : H.size = g.1 + jh_n h := Rp.2.2.1 hA
  have hKn := hK.1 ci _ (jx_cl_at ci hci)
  refine W.newcK hx hb hown w1 w2 w3 rfl hd (by rw [hR]; exact hkc) (by rw [hR]; exact hks) hKn.2.1 rfl fun H1 kC hkC e1 z1 o1 => ?_
  have hat1 : va_at g.2.1 jx_cl (g.1 + jh_n h, jx_en (jt_sd T) g (ju_z h ci i) ci i) H1 := by
    rw [jx_en_obj hci, ← hsz]
    exact ⟨_, jx_cl_at ci hci, (u_born (jx_ty ci) hts (jx_lays ci hci) hKn hkC e1 (jx_ty_ok ci hci)).to (jx_dvl hci)⟩
  have hcv := jx_cv_of g hq
  have kk := (k g p l e R s mI args below meth c C H1 locs lr _ (by rw [hA]; exact jx_grow hzr hq hat1 z1 o1) (jx_SG S z1 o1) L (jx_vl_mono (Nat.le_succ _) V) ⟨Or.inr (Or.inr (Or.inr ⟨_, Nat.lt_succ_self _, hq⟩)), jx_vs_mono (Nat.le_succ _) St⟩ (Nat.le_succ_of_le N0) (hnx rfl))
  rw [List.map_cons, hcv, ← hsz] at kk
  exact kk
theorem jr_anew {T : jx_P} {Q : Option jx_V → jx_H → Prop} {kc ks n : Nat} {ls : List (Option jx_V)} {st : List jx_V} {h : jx_H} {ci so i a len : Nat} {z : Int} {x : Int32} (hc : jx_at (jm_k (jt_Y T)) n = some (jx_oz 74 ci 0 z)) (hA : jt_al T = true) (hso2 : (so = 5 ∧ ci = 2) ∨ (so = 6 ∧ ci = 1)) (ht : jx_ka a so len = true) (hb8 : len * 4 ≤ 536870912) (hxl : x = nI len) (hq : (jx_cells (jt_sd T))[jh_n h]? = some (a, i)) (hkc : kc + 1 ≤ jt_mc T) (hks : ks + len ≤ jt_ms T) (k : jx_W T Q (kc + 1) (ks + len) (n + 1) ls (jv_r a i :: st) (ju_z h a i)) : jx_W T Q kc ks n ls (jv_i x :: st) h := by
  intro g p l e R s mI args below meth c C H locs lr pc Rp S L V St N0 hp
  obtain ⟨hx, hb, hml, hr, hown, hts, hlk, hnm, hK, hE, hg1, hR, hck, hal⟩ := id C
  obtain ⟨hd, hnx, hsd⟩ := jx_step hck hc rfl hp
  obtain ⟨hso, h15, hlen⟩ := jx_ka_of ht
  have w1 := hts _ (jx_word (w := .classLink (jt_Y T).1.cls z.toNat (jx_C ci)) hal hc List.mem_cons_self)
  have hd : decode (jt_Y T).2.1 pc = .ok (.anewarray z.toNat, 3) := hd
  have hAO : va_AO (jx_C ci) s := by
    rcases hso2 with ⟨-, rfl⟩ | ⟨-, rfl⟩
    · exact hE.2.2.2.2.2.2.1
    · exact hE.2.2.2.2.2.2.2.1
  have hty : jx_et so = .object (jx_C ci) := by
    rcases hso2 with ⟨rfl, rfl⟩ | ⟨rfl, rfl⟩ <;> rfl
  have h4 : 4 < so ∧ so < 8 := by rcases hso2 with ⟨rfl, -⟩ | ⟨rfl, -⟩ <;> decide
  subst hxl
  have hzr := hA ▸ Rp
  have hsz : H.size = g.1 + jh_n h := Rp.2.2.1 hA
  have hN : (nI len).toNatClampNeg = len := nI_clamp (by omega)
  rw [List.map_cons]
  refine W.anew (n := nI len) hx hb hown w1 (va_AO.use hAO) rfl hd rfl (nI_pos (by omega)) (by rw [hN]; exact hb8) (by rw [hR]; exact hkc) (by rw [hR, hN]; exact hks) fun cA kA comp f1 f2 f3 f4 => ?_
  rw [hN]
  generalize hH1 : H.push ({ cls := cA, slots := Array.replicate len .null, vm := .none } : Cell) = H1
  have z1 : H1.size = H.size + 1 := by rw [← hH1, Array.size_push]
  have e1 : H1[H.size]? = some (arrV cA len (fun _ => .null)) := by rw [← hH1, Array.getElem?_push_size, ← arrV_new]
  have o1 : ∀ q : Nat, q < H.size → H1[q]? = H[q]? := fun q hq => by rw [← hH1, Array.getElem?_push, if_neg (Nat.ne_of_lt hq)]
  have hcA : cA = g.2.2.1 so := by
    have h2 := (hK.2 so _ (jx_tys_at h4.2)).2
    rw [hty] at h2
    obtain ⟨kA', comp', -, -, -, g4⟩ := h2
    exact Option.some.inj (f1.symm.trans g4)
  have hat1 : va_at g.2.1 jx_cl (g.1 + jh_n h, jx_en (jt_sd T) g (ju_z h a i) a i) H1 := by
    rw [jx_en_R hso h4.1]
    show H1[g.1 + jh_n h]? = some (vp_cell _ (_, _))
    rw [← hsz, e1, hcA, vp_cell_q]
    congr 2
    funext q
    simp [jx_rv, jz_M, va_rf]
  have hcv := jx_cv_of g hq
  have kk := (k g p l e R s mI args below meth c C H1 locs lr _ (by rw [hA]; exact jx_grow hzr hq hat1 z1 o1) (jx_SG S z1 o1) L (jx_vl_mono (Nat.le_succ _) V) ⟨Or.inr (Or.inr (Or.inr ⟨_, Nat.lt_succ_self _, hq⟩)), jx_vs_mono (Nat.le_succ _) St.2⟩ (Nat.le_succ_of_le N0) (hnx rfl))
  rw [List.map_cons, hcv, ← hsz] at kk
  exact kk
theorem jr_aast {T : jx_P} {Q : Option jx_V → jx_H → Prop} {kc ks n : Nat} {ls : List (Option jx_V)} {st : List jx_V} {h : jx_H} {so a i m len tk tv : Nat} {tf : Nat → Nat → Nat} {j : Int32} (hc : jx_at (jm_k (jt_Y T)) n = some (jx_o 70)) (ht : jx_ka a so len = true) (hso2 : (so = 5 ∧ tk = 2) ∨ (so = 6 ∧ tk = 1)) (he : jx_rg a = (tk, tf)) (htv : tf i m = tv) (hj : j = nI m) (hm : m < len) (k : jx_W T Q kc ks (n + 1) ls st (ju_M h a i (va_up (jh_M h a i) m 1))) : jx_W T Q kc ks n ls (jv_r tk tv :: jv_i j :: jv_r a i :: st) h := by
  intro g p l e R s mI args below meth c C H locs lr pc Rp S L V St N0 hp
  obtain ⟨hx, hb, hml, hr, hown, hts, hlk, hnm, hK, hE, hg1, hR, hck, hal⟩ := id C
  obtain ⟨hd, hnx, hsd⟩ := jx_step hck hc rfl hp
  have h4 : 4 < so ∧ so < 8 := by rcases hso2 with ⟨rfl, -⟩ | ⟨rfl, -⟩ <;> decide
  have htk : tk < 12 := by rcases hso2 with ⟨-, rfl⟩ | ⟨-, rfl⟩ <;> decide
  obtain ⟨hso, h15, hlen⟩ := jx_ka_of ht
  obtain ⟨q, hqn, hq⟩ := jx_lr_at St.2.2.1 (Or.inr h15)
  have hcv := jx_cv_of g hq
  have hat := Rp.1 q _ (jx_wd_at hq hqn)
  rw [jx_en_R hso h4.1] at hat
  obtain ⟨hin, hcl⟩ := jx_clamp hm hlen hj
  have hty : jx_et so = .object (jx_C tk) := by
    rcases hso2 with ⟨rfl, rfl⟩ | ⟨rfl, rfl⟩ <;> rfl
  obtain ⟨qv, hqvn, hqv⟩ := jx_lr_at St.1 (Or.inl htk)
  have hcvv := jx_cv_of g hqv
  have hatv := Rp.1 qv _ (jx_wd_at hqv hqvn)
  rw [jx_en_obj htk] at hatv
  obtain ⟨r', hr', cellV, g1, g2, g3, -⟩ := hatv
  have hcls := (hK.1 tk _ (jx_cl_at tk htk)).2
  have hRA := (hK.2 so _ (jx_tys_at h4.2)).2
  rw [hty] at hRA
  obtain ⟨kA, comp, k1, k2, k3, -⟩ := hRA
  have hcomp : comp = g.2.1.1 tk := Option.some.inj (k3.symm.trans hcls.1)
  subst hcomp
  obtain ⟨kC, hkC, -⟩ := hcls.2
  have hat : H[g.1 + q]? = some (vp_cell (g.2.2.1 so) (len, .inr (.inr (.inr (.inr (jx_rv (jt_sd T) g h a i)))))) := hat
  rw [List.map_cons, List.map_cons, List.map_cons, hcv, hcvv]
  refine W.aast hx hb hat (fun q h => by cases h) (fun h => by cases h) k1 k2 rfl hkC ⟨fun q => hin (Or.inl q), by show _ < (arrV _ _ _).slots.size; rw [arrV_size]; exact Nat.not_le.mp fun q => hin (Or.inr q)⟩ g1 (fun q h => by rw [g3] at h; cases h) (by rw [g2]; exact hkC) (by rw [g2]; exact va_assign hcls) rfl rfl hd fun H1 e1 hz oq => ?_
  have hat1 : va_at g.2.1 jx_cl (g.1 + q, jx_en (jt_sd T) g (ju_M h a i (va_up (jh_M h a i) m 1)) a i) H1 := by
    rw [jx_en_R hso h4.1]
    show H1[g.1 + q]? = some (vp_cell _ (_, _))
    rw [e1, hcl, vp_cell_q, vp_cell_q, arrV_store]
    congr 2
    funext x
    by_cases hxm : x = m
    · subst hxm
      simp [updV, jx_rv, jg_MM, va_up, va_rf, he, htv, (jx_cell_facts hqv).1]
    · simp [updV, jx_rv, jg_MM, va_up, hxm]
  have hvh : jx_vh (jt_sd T) (jt_al T) (ju_M h a i (va_up (jh_M h a i) m 1)) := by
    intro q2 k2 i2 hq2 hc2
    obtain ⟨v1, v2, v3⟩ := Rp.2.2.2.2 q2 k2 i2 hq2 hc2
    by_cases e2 : k2 = a ∧ i2 = i
    · obtain ⟨rfl, rfl⟩ := e2
      have eM : ∀ j, jh_M (ju_M h k2 i2 (va_up (jh_M h k2 i2) m 1)) k2 i2 j = if j = m then 1 else jh_M h k2 i2 j := fun j => by rw [jg_MM]; rfl
      have hno : ∀ f, ¬ f < (jx_so k2).2.2 ∨ True := fun _ => Or.inr trivial
      refine ⟨fun f hf hf4 => ?_, fun f hf hf5 => ?_, fun h5 f hf => ?_⟩
      · exact absurd hf4 (jx_nf4 h15 f)
      · exact absurd hf5 (jx_nf5 h15 f)
      · rw [eM]
        by_cases ej : f = m
        · subst ej
          rw [if_pos rfl, he]
          exact ⟨fun _ => by show jx_lr _ _ tk (tf i2 f); rw [htv]; exact St.1, fun _ => by decide⟩
        · rw [if_neg ej]; exact v3 h5 f hf
    · have eM : jh_M (ju_M h a i (va_up (jh_M h a i) m 1)) k2 i2 = jh_M h k2 i2 := if_neg e2
      rw [eM]
      exact ⟨v1, v2, v3⟩
  exact (k g p l e R s mI args below meth c C H1 _ lr _ (jx_write Rp hq hqn rfl (fun x y hxy => jx_same_M hxy) hat1 hz oq hvh) (jx_SP Rp hqn S hz oq) L V St.2.2.2 N0 (hnx rfl))
theorem jr_drop {T : jx_P} {Q : Option jx_V → jx_H → Prop} {kc ks n : Nat} {ls : List (Option jx_V)} {st : List jx_V} {h : jx_H} (a : Nat) (k : jx_W T Q kc ks n (jx_s1 ls a none) st h) : jx_W T Q kc ks n ls st h := by
  intro g p l e R s mI args below meth c C H locs lr pc Rp S L V St N0 hp
  refine k g p l e R s mI args below meth c C H locs lr pc Rp S ⟨⟨L.1.1, L.1.2.1, fun q hq => L.1.2.2 q ?_⟩, by rw [jx_s1_len]; exact L.2⟩ (jx_vl_s1n V) St N0 hp
  obtain ⟨j, w, hj, rfl⟩ := jx_as_mem.mp hq
  rw [jx_s1_at] at hj
  split at hj
  · split at hj <;> cases hj
  · exact jx_as_mem.mpr ⟨j, w, hj, rfl⟩
