theorem jgl_uu (h : jx_H) (k i : Nat) (f g : Nat → Int64) : ju_L (ju_L h k i f) k i g = ju_L h k i g := by
  unfold ju_L
  simp only [Prod.mk.injEq, true_and, and_true]
  funext a b
  split <;> rfl
theorem jgl_self (h : jx_H) (k i : Nat) : ju_L h k i (jh_L h k i) = h := by
  unfold ju_L jh_L
  obtain ⟨x, y, z⟩ := h
  simp only [Prod.mk.injEq, true_and, and_true]
  funext a b
  split
  · next e => rw [e.1, e.2]
  · rfl
/-- the words of the language, cut out of one constant: how many, the key under way, the row -/
def jkc (k : Nat) : Int32 := ((jx_bytS 0 k &&& 255).toUInt32 % 65536).toInt32
def jkst (x : Nat × Int64 × (Nat → Int64)) (c : Int32) : Nat × Int64 × (Nat → Int64) := if c = 32 then (x.1 + 1, 0, vp_updL x.2.2 x.1 x.2.1) else (x.1, x.2.1 * 32 + (c - 97 + 1).toInt64, x.2.2)
def jkS (F : Nat → Int64) : Nat → Nat × Int64 × (Nat → Int64)
  | 0 => (0, 0, F)
  | k + 1 => jkst (jkS F k) (jkc k)
def jkN : Nat → Nat
  | 0 => 0
  | k + 1 => jkN k + (if jkc k = 32 then 1 else 0)
theorem jkS_N (F : Nat → Int64) : ∀ k, (jkS F k).1 = jkN k
  | 0 => rfl
  | k + 1 => by
    have ih := jkS_N F k
    show (jkst (jkS F k) (jkc k)).1 = jkN k + (if jkc k = 32 then 1 else 0)
    unfold jkst
    split
    · show (jkS F k).1 + 1 = _
      rw [ih]
    · show (jkS F k).1 = _
      rw [ih]; rfl
set_option maxRecDepth 100000 in
theorem jkN_lt : ∀ k, k < 140 → jkN k < 29 := by decide +kernel
theorem jkS_lt (F : Nat → Int64) {k : Nat} (h : k < 140) : (jkS F k).1 < 29 := by rw [jkS_N]; exact jkN_lt k h
theorem jkS_y {F : Nat → Int64} {k : Nat} (h : jkc k = 32) : jkS F (k + 1) = ((jkS F k).1 + 1, 0, vp_updL (jkS F k).2.2 (jkS F k).1 (jkS F k).2.1) := if_pos h
theorem jkS_n {F : Nat → Int64} {k : Nat} (h : ¬ jkc k = 32) : jkS F (k + 1) = ((jkS F k).1, (jkS F k).2.1 * 32 + (jkc k - 97 + 1).toInt64, (jkS F k).2.2) := if_neg h
def jz0 : jx_H := (fun _ _ _ => 0, fun _ _ _ => 0, fun _ _ _ => 0, 0)
set_option maxHeartbeats 4000000 in
theorem ek_Due {d i : Nat} {h : jx_H} {Q : Option jx_V → jx_H → Prop} (hQ : Q none h) : jx_Ev jm_Due_init (d + 1) 0 0 true 0 [jv_r 2 i] h Q := by
  show jx_W (jm_Due_init, d + 1, 0, 0, true, 0, _) Q 0 0 0 [some (jv_r 2 i)] [] h
  refine jr_aload rfl rfl ?_
  refine jr_objI rfl rfl (Nat.succ_le_succ (Nat.zero_le _)) rfl ?_
  exact jr_vret rfl rfl (Nat.zero_le _) (Nat.zero_le _) hQ
set_option maxHeartbeats 4000000 in
set_option maxRecDepth 100000 in
theorem lp_words {d mc ms kc ks n0 : Nat} {h : jx_H} {F : Nat → Int64} {Q : Option jx_V → jx_H → Prop} (k : Nat) (x : Option jx_V) (hk : k ≤ 140) (hk1 : kc ≤ mc) (hk2 : ks ≤ ms) (hM : jh_M h 9 0 1 ≠ 0) (hQ : Q none (ju_L h 17 0 (jkS F 140).2.2)) : jx_W (jm_Tape_init, d + 6, mc, ms, true, 0, n0) Q kc ks 28 [some (jv_r 9 0), some (jv_i (nI (jkS F k).1)), some (jv_l (jkS F k).2.1), none, some (jv_i (nI k)), x] [] (ju_L h 17 0 (jkS F k).2.2) := by
  rcases Nat.lt_or_ge k 140 with hlt | hge
  · have hw := jkS_lt F hlt
    refine jr_iload rfl rfl ?_
    refine jr_ldcS rfl (by decide) rfl rfl ?_
    refine jr_ct0 (mc' := 0) (ms' := 0) rfl jm_Str_length_n jm_Str_length_f rfl rfl rfl rfl rfl rfl hk1 hk2 ?_
    refine ev_Str_length ?_
    refine jr_icmp_ge rfl (fun z => absurd z (nI_ge (a := k) (b := 140) (by omega) (by decide))) (fun _ => ?_)
    refine jr_iload rfl rfl ?_
    refine jr_ic rfl ?_
    refine jr_icmp_ge rfl (fun z => absurd z (nI_ge (a := (jkS F k).1) (b := 29) (by omega) (by decide))) (fun _ => ?_)
    refine jr_ldcS rfl (by decide) rfl rfl ?_
    refine jr_iload rfl rfl ?_
    refine jr_ct1 (mc' := 0) (ms' := 0) rfl jm_Str_charAt_n jm_Str_charAt_f rfl rfl rfl rfl rfl rfl hk1 hk2 ?_
    refine ev_Str_charAt (by decide) (show k < jx_lenS 0 from hlt) ?_
    refine jr_ist5 rfl rfl ?_
    refine jr_iload rfl rfl ?_
    refine jr_ic rfl ?_
    refine jr_icmp_ne rfl (fun c41 => ?_) (fun c41 => ?_)
    · refine jr_lload rfl rfl ?_
      refine jr_iload rfl rfl ?_
      refine jr_cs2 (mc' := 0) (ms' := 0) rfl jm_Tape_keyWith_n jm_Tape_keyWith_f rfl rfl rfl rfl rfl hk1 hk2 ?_
      show jx_W (jm_Tape_keyWith, _, _, _, _, _, _) _ 0 0 0 [some _, none, some _] [] _
      refine jr_lload rfl rfl ?_
      refine jr_lc rfl ?_
      refine jr_lmul rfl ?_
      refine jr_iload rfl rfl ?_
      refine jr_ic rfl ?_
      refine jr_isub rfl ?_
      refine jr_ic rfl ?_
      refine jr_iadd rfl ?_
      refine jr_i2l rfl ?_
      refine jr_ladd rfl ?_
      refine jr_lret rfl rfl (Nat.zero_le _) (Nat.zero_le _) ?_
      refine jr_lst2 rfl rfl ?_
      refine jr_iinc4 rfl rfl ?_
      refine jr_goto rfl ?_
      have kk := lp_words (d := d) (n0 := n0) (k + 1) (some (jv_i (jkc k))) (by omega) hk1 hk2 hM hQ
      rw [jkS_n (F := F) (k := k) c41] at kk
      rw [jn_S]
      exact kk
    · refine jr_aload rfl rfl ?_
      refine jr_getR rfl rfl rfl rfl (Or.inr hM) ?_
      refine jr_iload rfl rfl ?_
      refine jr_lload rfl rfl ?_
      refine jr_last (len := 29) rfl rfl rfl hw ?_
      refine jr_iinc1 rfl rfl ?_
      refine jr_lc rfl ?_
      refine jr_lst2 rfl rfl ?_
      refine jr_goto rfl ?_
      refine jr_iinc4 rfl rfl ?_
      refine jr_goto rfl ?_
      have kk := lp_words (d := d) (n0 := n0) (k + 1) (some (jv_i (jkc k))) (by omega) hk1 hk2 hM hQ
      rw [jkS_y (F := F) (k := k) c41] at kk
      rw [jn_S, jn_S, jgl_uu, jg_LL]
      exact kk
  · have e : k = 140 := by omega
    subst e
    refine jr_iload rfl rfl ?_
    refine jr_ldcS rfl (by decide) rfl rfl ?_
    refine jr_ct0 (mc' := 0) (ms' := 0) rfl jm_Str_length_n jm_Str_length_f rfl rfl rfl rfl rfl rfl hk1 hk2 ?_
    refine ev_Str_length ?_
    refine jr_icmp_ge rfl (fun _ => ?_) (fun z => absurd (by decide +kernel) z)
    refine jr_vret rfl rfl hk1 hk2 ?_
    exact hQ
termination_by 140 - k
decreasing_by all_goals omega

theorem lp_words0 {d mc ms kc ks n0 : Nat} {h : jx_H} {Q : Option jx_V → jx_H → Prop} (hk1 : kc ≤ mc) (hk2 : ks ≤ ms) (hM : jh_M h 9 0 1 ≠ 0) (hQ : Q none (ju_L h 17 0 (jkS (jh_L h 17 0) 140).2.2)) : jx_W (jm_Tape_init, d + 6, mc, ms, true, 0, n0) Q kc ks 28 [some (jv_r 9 0), some (jv_i 0), some (jv_l 0), none, some (jv_i 0), none] [] h := by
  have kk := lp_words (d := d) (n0 := n0) (F := jh_L h 17 0) 0 none (by omega) hk1 hk2 hM hQ
  rw [show (jkS (jh_L h 17 0) 0).2.2 = jh_L h 17 0 from rfl, jgl_self] at kk
  exact kk
/-- where an array of arrays and its six rows will stand -/
def jx_mq (sd n a : Nat) : Bool := decide ((jx_cells sd)[n]? = some (a, 0)) && (List.range 6).all (fun j => decide ((jx_cells sd)[n + 1 + j]? = some (a + 1, j)))
def jk_m (h : jx_H) (a : Nat) : jx_H := ju_M (ju_z (ju_z (ju_z (ju_z (ju_z (ju_z (ju_z h a 0) (a + 1) 0) (a + 1) 1) (a + 1) 2) (a + 1) 3) (a + 1) 4) (a + 1) 5) a 0 (fun j => if j < 6 then 1 else 0)
theorem jk_mn (h : jx_H) (a : Nat) : jh_n (jk_m h a) = jh_n h + 7 := rfl
theorem jk_ms {h : jx_H} {a k i : Nat} (h1 : ¬ (k = a ∧ i = 0)) (h2 : ∀ j, j < 6 → ¬ (k = a + 1 ∧ i = j)) : jx_same h (jk_m h a) k i := by
  have e0 := h2 0 (by omega); have e1 := h2 1 (by omega); have e2 := h2 2 (by omega); have e3 := h2 3 (by omega); have e4 := h2 4 (by omega); have e5 := h2 5 (by omega)
  refine ⟨?_, ?_, ?_⟩
  · exact (if_neg e5).trans ((if_neg e4).trans ((if_neg e3).trans ((if_neg e2).trans ((if_neg e1).trans ((if_neg e0).trans (if_neg h1))))))
  · exact (if_neg e5).trans ((if_neg e4).trans ((if_neg e3).trans ((if_neg e2).trans ((if_neg e1).trans ((if_neg e0).trans (if_neg h1))))))
  · exact (if_neg h1).trans ((if_neg e5).trans ((if_neg e4).trans ((if_neg e3).trans ((if_neg e2).trans ((if_neg e1).trans ((if_neg e0).trans (if_neg h1)))))))
theorem jk_mM (h : jx_H) (a : Nat) : jh_M (jk_m h a) a 0 = fun j => if j < 6 then 1 else 0 := if_pos ⟨rfl, rfl⟩
theorem jk_mI {h : jx_H} {a j : Nat} (hj : j < 6) : jh_I (jk_m h a) (a + 1) j = fun _ => 0 := by
  have go : ∀ j, j < 6 → jh_I (jk_m h a) (a + 1) j = if (a + 1 = a + 1 ∧ j = 5) then fun _ => 0 else if (a + 1 = a + 1 ∧ j = 4) then fun _ => 0 else if (a + 1 = a + 1 ∧ j = 3) then fun _ => 0 else if (a + 1 = a + 1 ∧ j = 2) then fun _ => 0 else if (a + 1 = a + 1 ∧ j = 1) then fun _ => 0 else if (a + 1 = a + 1 ∧ j = 0) then fun _ => 0 else if (a + 1 = a ∧ j = 0) then fun _ => 0 else jh_I h (a + 1) j := fun j hj => rfl
  rw [go j hj]
  by_cases e5 : j = 5
  · rw [if_pos ⟨rfl, e5⟩]
  · rw [if_neg (fun z => e5 z.2)]
    by_cases e4 : j = 4
    · rw [if_pos ⟨rfl, e4⟩]
    · rw [if_neg (fun z => e4 z.2)]
      by_cases e3 : j = 3
      · rw [if_pos ⟨rfl, e3⟩]
      · rw [if_neg (fun z => e3 z.2)]
        by_cases e2 : j = 2
        · rw [if_pos ⟨rfl, e2⟩]
        · rw [if_neg (fun z => e2 z.2)]
          by_cases e1 : j = 1
          · rw [if_pos ⟨rfl, e1⟩]
          · rw [if_neg (fun z => e1 z.2), if_pos ⟨rfl, by omega⟩]
theorem jx_mq_of {sd n a : Nat} (h : jx_mq sd n a = true) : (jx_cells sd)[n]? = some (a, 0) ∧ ∀ j, j < 6 → (jx_cells sd)[n + 1 + j]? = some (a + 1, j) := by
  simp only [jx_mq, Bool.and_eq_true, decide_eq_true_eq, List.all_eq_true, List.mem_range] at h
  exact h
theorem jk_arrx {cA : ClassId} {N : Nat} {f f' : Nat → Value} (hf : ∀ x, x < N → f x = f' x) : arrV cA N f = arrV cA N f' := by
  unfold arrV
  congr 1
  apply Array.ext
  · simp
  · intro i h1 h2
    simp only [Array.getElem_ofFn]
    exact hf _ (by simpa using h1)
theorem jx_growM {sd a : Nat} {g : jx_E} {h : jx_H} {H H1 : Heap} {cA comp : ClassId} (Rp : jx_rp sd true g h H) (ha : a = 57 ∨ a = 59) (hq : jx_mq sd (jh_n h) a = true)
    (h7 : g.2.2.1 7 = cA) (h1 : g.2.2.1 1 = comp) (hz : H1.size = H.size + 7) (oq : ∀ x : Nat, x < H.size → H1[x]? = H[x]?)
    (ho : H1[H.size]? = some (arrV cA 6 (fun j => .ref (H.size + 1 + j)))) (hi : ∀ j, j < 6 → H1[H.size + 1 + j]? = some (arrV comp 156 (fun _ => .int 0))) : jx_rp sd true g (jk_m h a) H1 := by
  obtain ⟨r1, r2, r3, r4, r5⟩ := Rp
  obtain ⟨q0, qj⟩ := jx_mq_of hq
  have hsz := r3 rfl
  have hlen : jh_n h + 7 ≤ (jx_cells sd).length := by have := (List.getElem?_eq_some_iff.mp (qj 5 (by omega))).1; omega
  have hsa : jx_so a = (7, 0, 6) ∧ jx_so (a + 1) = (1, 0, 156) ∧ jx_rg a = (a + 1, fun _ j => j) := by rcases ha with rfl | rfl <;> exact ⟨rfl, rfl, rfl⟩
  have ha15 : 15 < a := by omega
  -- where a cell is, by its kind
  have hold : ∀ q k i, q < jh_n h → (jx_cells sd)[q]? = some (k, i) → jx_same h (jk_m h a) k i := by
    intro q k i hqn hc
    refine jk_ms ?_ ?_
    · rintro ⟨rfl, rfl⟩
      have := (jx_cell_facts hc).1.symm.trans (jx_cell_facts q0).1
      omega
    · rintro j hj ⟨rfl, rfl⟩
      have := (jx_cell_facts hc).1.symm.trans (jx_cell_facts (qj i hj)).1
      omega
  have hnew : ∀ q k i, ¬ q < jh_n h → q < jh_n h + 7 → (jx_cells sd)[q]? = some (k, i) → (q = jh_n h ∧ k = a ∧ i = 0) ∨ (q = jh_n h + 1 + i ∧ k = a + 1 ∧ i < 6) := by
    intro q k i h1 h2 hc
    by_cases e : q = jh_n h
    · subst e
      rw [q0] at hc
      cases hc
      exact Or.inl ⟨rfl, rfl, rfl⟩
    · have hj : q - (jh_n h + 1) < 6 := by omega
      have := qj _ hj
      rw [show jh_n h + 1 + (q - (jh_n h + 1)) = q by omega, hc] at this
      cases this
      exact Or.inr ⟨by omega, rfl, hj⟩
  have hm : jh_n h ≤ jh_n h + 7 := Nat.le_add_right _ _
  refine ⟨?_, hlen, fun _ => by rw [hz, hsz, jk_mn]; omega, fun e => (by cases e), ?_⟩
  · intro j x hj
    have hjl : j < jh_n h + 7 := by have := (List.getElem?_eq_some_iff.mp hj).1; rw [jx_wd_len] at this; exact this
    have hjc : j < (jx_cells sd).length := by omega
    have hcj : (jx_cells sd)[j]? = some ((jx_cells sd)[j].1, (jx_cells sd)[j].2) := List.getElem?_eq_getElem hjc
    generalize (jx_cells sd)[j].1 = k at hcj
    generalize (jx_cells sd)[j].2 = i at hcj
    rw [jx_wd_at (h := jk_m h a) hcj hjl] at hj
    cases hj
    by_cases e : j < jh_n h
    · rw [jx_en_same (hold j k i e hcj)]
      exact (r1 j _ (jx_wd_at hcj e)).kept (oq _ (by show g.1 + j < H.size; omega))
    · rcases hnew j k i e hjl hcj with ⟨rfl, rfl, rfl⟩ | ⟨rfl, rfl, hi6⟩
      · rw [jx_en_R hsa.1 (by decide)]
        show H1[g.1 + jh_n h]? = some (vp_cell _ (_, _))
        rw [← hsz, ho, h7, vp_cell_q]
        refine congrArg some (jk_arrx ?_)
        intro x hx
        simp only [jx_rv, jk_mM, if_pos hx, hsa.2.2, va_rf]
        rw [if_neg (by decide), (jx_cell_facts (qj x hx)).1, hsz]
        show Value.ref _ = Value.ref _
        rw [show g.1 + jh_n h + 1 + x = g.1 + (jh_n h + 1 + x) by omega]
      · rw [jx_en_I hsa.2.1 (by decide) (by decide), jk_mI hi6, h1]
        show H1[g.1 + (jh_n h + 1 + i)]? = some (vp_cell _ (_, _))
        rw [show g.1 + (jh_n h + 1 + i) = H.size + 1 + i by omega, hi i hi6]
        rfl
  · intro q k i hqn hc
    by_cases e : q < jh_n h
    · obtain ⟨v1, v2, v3⟩ := r5 q k i e hc
      rw [(hold q k i e hc).2.2]
      exact ⟨fun f x y => ⟨fun z => jx_lr_mono hm ((v1 f x y).1 z), fun z => by cases z⟩, fun f x y z => jx_lr_mono hm (v2 f x y z), fun x j y => ⟨fun z => jx_lr_mono hm ((v3 x j y).1 z), fun z => by cases z⟩⟩
    · rcases hnew q k i e hqn hc with ⟨rfl, rfl, rfl⟩ | ⟨rfl, rfl, hi6⟩
      · refine ⟨fun f x y => absurd y (jx_nf4 ha15 f), fun f x y => absurd y (jx_nf5 ha15 f), fun h5 j hj => ⟨fun _ => ?_, fun z => by cases z⟩⟩
        rw [hsa.1] at hj
        have hj : j < 6 := hj
        rw [hsa.2.2]
        exact Or.inr (Or.inr (Or.inr ⟨jh_n h + 1 + j, by show _ < jh_n h + 7; omega, qj j hj⟩))
      · refine ⟨fun f x y => absurd y (jx_nf4 (by omega) f), fun f x y => absurd y (jx_nf5 (by omega) f), fun h5 => ?_⟩
        rw [hsa.2.1] at h5
        exact absurd h5 (by decide)
theorem jk_arr0 (cA : ClassId) (N h0 : Nat) : ∀ i, ∃ f : Nat → Value, Jvm.Free.Multi.outerC cA N h0 i = arrV cA N f
  | 0 => ⟨fun _ => .null, arrV_new cA N .null⟩
  | i + 1 => by
    obtain ⟨f, e⟩ := jk_arr0 cA N h0 i
    refine ⟨updV f i (.ref (h0 + 1 + i)), ?_⟩
    show (Jvm.Free.Multi.outerC cA N h0 i).setSlot i _ = _
    rw [e, arrV_store]
theorem jk_arr (cA : ClassId) (h0 : Nat) : Jvm.Free.Multi.outerC cA 6 h0 6 = arrV cA 6 (fun j => .ref (h0 + 1 + j)) := by
  have os := Jvm.Free.Multi.outerC_slot cA 6 h0 6
  obtain ⟨f, e⟩ := jk_arr0 cA 6 h0 6
  rw [e] at os
  rw [e]
  apply jk_arrx
  intro j hj
  have := os j hj
  rw [arrV_read cA f hj, if_pos hj] at this
  exact Option.some.inj this
theorem jr_multi {T : jx_P} {Q : Option jx_V → jx_H → Prop} {kc ks n : Nat} {ls : List (Option jx_V)} {st : List jx_V} {h : jx_H} {a : Nat} {z : Int} (hc : jx_at (jm_k (jt_Y T)) n = some (jx_oz 75 0 0 z)) (ha : a = 57 ∨ a = 59) (hA : jt_al T = true) (hq : jx_mq (jt_sd T) (jh_n h) a = true) (hkc : kc + 7 ≤ jt_mc T) (hks : ks + 942 ≤ jt_ms T) (k : jx_W T Q (kc + 7) (ks + 942) (n + 1) ls (jv_r a 0 :: st) (jk_m h a)) : jx_W T Q kc ks n ls (jv_i 156 :: jv_i 6 :: st) h := by
  intro g p l e R s mI args below meth c C H locs lr pc Rp S L V St N0 hp
  obtain ⟨hx, hb, hml, hr, hown, hts, hlk, hnm, hK, hE, hg1, hR, hck, hal⟩ := id C
  obtain ⟨hd, hnx, hsd⟩ := jx_step hck hc rfl hp
  have w1 := hts _ (jx_word (w := .classLink (jt_Y T).1.cls z.toNat "[[I") hal hc List.mem_cons_self)
  have w3 := hts _ (jx_word (w := .arrayClass .int) hal hc (List.mem_cons_of_mem _ List.mem_cons_self))
  have w2 : (Cond.arrayOver (.array .int)).before args s = true := hE.2.2.2.2.2.2.2.2
  have hd : decode (jt_Y T).2.1 pc = .ok (.multianewarray z.toNat 2, 4) := hd
  have hzr := hA ▸ Rp
  have hsz : H.size = g.1 + jh_n h := Rp.2.2.1 hA
  have h7 := (hK.2 7 _ (jx_tys_at (by omega))).2
  have h1 := (hK.2 1 _ (jx_tys_at (by omega))).2
  have h7 : s.vm.findClass ("[" ++ (FieldType.array .int).toString) = some (g.2.2.1 7) := h7
  have h1 : s.vm.findClass (FieldType.array .int).toString = some (g.2.2.1 1) := h1
  have hcv : jx_cv (jt_sd T) g (jv_r a 0) = .ref (g.1 + jh_n h) := jx_cv_of g (jx_mq_of hq).1
  intro U hU X
  obtain ⟨vm₁, cA, comp, hW, hfA, hfC, -, -, X1, step⟩ := X.multianewarray2F hx hown (ty := .int) w1 w2 w3 (g := F0 mI pc lr (Value.int 156 :: Value.int 6 :: st.map (jx_cv (jt_sd T) g))) rfl (by rw [hb]; exact hd) rfl (by decide) (by decide) (by decide) (by decide) (by decide) rfl rfl (by rw [hR]; exact hkc) (by rw [hR]; exact hks)
  have eA : g.2.2.1 7 = cA := Option.some.inj (h7.symm.trans hfA)
  have eC : g.2.2.1 1 = comp := Option.some.inj (h1.symm.trans hfC)
  rw [show (6 : Int32).toNatClampNeg = 6 from rfl, show (156 : Int32).toNatClampNeg = 156 from rfl] at X1 step
  obtain ⟨f1, f2, f3, f4⟩ := Jvm.Free.Multi.fill_facts (U.setVm vm₁) cA comp 6 156 (defaultValue .int) 6
  have fo := fun (x : Nat) (hx : x < H.size) => Jvm.Free.Multi.fill_old (U.setVm vm₁) cA comp 6 156 (defaultValue .int) (a := x) (by show x < U.heap.size; rw [hU]; exact hx) 6
  have fi := Jvm.Free.Multi.fill_inner (U.setVm vm₁) cA comp 6 156 (defaultValue .int) 6
  have hUh : (U.setVm vm₁).heap = H := hU
  rw [hUh] at f1 f2 fi
  generalize hF : Jvm.Free.Multi.fill (U.setVm vm₁) cA comp 6 156 (defaultValue .int) 6 = T1 at *
  have rp : jx_rp (jt_sd T) true g (jk_m h a) T1.heap := jx_growM hzr ha hq eA eC (by rw [f1]) (fun x hx => (fo x hx).trans (by rw [hUh])) (by rw [f2, jk_arr]) (fun j hj => by
    rw [fi j hj]
    unfold Jvm.Free.Multi.innerC
    rw [arrV_new]
    rfl)
  have kk := k g p l e R s mI args below meth c C T1.heap locs lr _ (by rw [hA]; exact rp) ⟨Nat.le_trans S.1 (by rw [f1]; omega), fun x h1 h2 => ((fo x (Nat.lt_of_lt_of_le h1 S.1)).trans (by rw [hUh])).trans (S.2.1 x h1 h2), S.2.2⟩ L (jx_vl_mono (Nat.le_add_right _ 7) V) ⟨Or.inr (Or.inr (Or.inr ⟨jh_n h, by rw [jk_mn]; omega, (jx_mq_of hq).1⟩)), jx_vs_mono (Nat.le_add_right _ 7) St.2.2⟩ (Nat.le_trans N0 (Nat.le_add_right _ 7)) (hnx rfl)
  rw [List.map_cons, hcv, ← hsz] at kk
  obtain ⟨t, a1, b1⟩ := kk T1 rfl (by rw [show kc + 7 = kc + 1 + 6 by omega, show ks + 942 = ks + 6 + 6 * 156 by omega]; exact X1)
  rw [← hU] at a1
  exact ⟨t, step t a1, b1⟩
theorem jk_u {f : Nat → Int32} (i : Nat) : upd (fun j => if j < i then 0 else f j) i 0 = fun j => if j < i + 1 then 0 else f j := by
  funext j
  show (if j = i then (0 : Int32) else if j < i then 0 else f j) = if j < i + 1 then 0 else f j
  by_cases e : j = i
  · rw [if_pos e, if_pos (by omega)]
  · rw [if_neg e]
    by_cases l : j < i
    · rw [if_pos l, if_pos (by omega)]
    · rw [if_neg l, if_neg (by omega)]
set_option maxHeartbeats 4000000 in
set_option maxRecDepth 100000 in
theorem ek_np {d : Nat} {h : jx_H} {Q : Option jx_V → jx_H → Prop} (hM : jh_M h 11 0 12 ≠ 0) (hb : jh_I h 11 0 43 = nI 0) (hp : jh_I h 67 0 0 = 0) (hQ : Q (some (jv_i 0)) h) : jx_Ev jm_MD_personMany d 0 0 true 1 [jv_r 11 0] h Q := by
  show jx_W (jm_MD_personMany, d, 0, 0, true, 1, _) Q 0 0 0 [some (jv_r 11 0)] [] h
  refine jr_aload rfl rfl ?_
  refine jr_getR rfl rfl rfl rfl (Or.inr hM) ?_
  refine jr_aload rfl rfl ?_
  refine jr_getI rfl rfl ?_
  refine jr_iald (len := 2) rfl rfl hb (by decide) ?_
  refine jr_iret rfl rfl (Nat.zero_le _) (Nat.zero_le _) ?_
  rw [hp]; exact hQ
set_option maxHeartbeats 4000000 in
set_option maxRecDepth 100000 in
theorem lp_z {d mc ms kc ks n0 : Nat} {h : jx_H} {Q : Option jx_V → jx_H → Prop} (i : Nat) (hi : i ≤ 337) (hM : jh_M h 11 0 54 ≠ 0) (hQ : jx_W (jm_MD_begin, d + 2, mc, ms, true, 1, n0) Q kc ks 12 [some (jv_r 11 0), some (jv_i (nI 337))] [] (ju_I h 98 0 (fun j => if j < 337 then 0 else jh_I h 98 0 j))) : jx_W (jm_MD_begin, d + 2, mc, ms, true, 1, n0) Q kc ks 2 [some (jv_r 11 0), some (jv_i (nI i))] [] (ju_I h 98 0 (fun j => if j < i then 0 else jh_I h 98 0 j)) := by
  refine jr_iload rfl rfl ?_
  refine jr_ic rfl ?_
  refine jr_icmp_ge rfl (fun c4 => ?_) (fun c4 => ?_)
  · have hx1 : 337 ≤ i := jn_le (show nI 337 ≤ nI i from c4) (by omega) (by omega)
    have e : i = 337 := by omega
    subst e
    exact hQ
  · have hl1 : i < 337 := jn_nle (show ¬ nI 337 ≤ nI i from c4) (by omega) (by omega)
    refine jr_aload rfl rfl ?_
    refine jr_getR rfl rfl rfl rfl (Or.inr hM) ?_
    refine jr_iload rfl rfl ?_
    refine jr_ic rfl ?_
    refine jr_iast (len := 337) rfl rfl rfl hl1 ?_
    refine jr_iinc1 rfl rfl ?_
    refine jr_goto rfl ?_
    rw [jn_S, jg_uu, jg_II, jk_u]
    exact lp_z (i + 1) (by omega) hM hQ
termination_by 337 - i
decreasing_by all_goals omega
theorem lp_z0 {d mc ms kc ks n0 : Nat} {h : jx_H} {Q : Option jx_V → jx_H → Prop} (hM : jh_M h 11 0 54 ≠ 0) (hQ : jx_W (jm_MD_begin, d + 2, mc, ms, true, 1, n0) Q kc ks 12 [some (jv_r 11 0), some (jv_i (nI 337))] [] (ju_I h 98 0 (fun j => if j < 337 then 0 else jh_I h 98 0 j))) : jx_W (jm_MD_begin, d + 2, mc, ms, true, 1, n0) Q kc ks 2 [some (jv_r 11 0), some (jv_i 0)] [] h := by
  have kk := lp_z 0 (by omega) hM hQ
  rw [show (fun j => if j < 0 then (0 : Int32) else jh_I h 98 0 j) = jh_I h 98 0 from funext fun j => if_neg (by omega), jg_self] at kk
  exact kk
