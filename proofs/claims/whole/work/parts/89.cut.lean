def jT_E (B : Nat → Int32) (sz : Nat) : Nat → Nat
  | 0 => 0
  | t + 1 => jT_f B sz (jT_a B sz (jT_E B sz t))
theorem jT_f_le {B : Nat → Int32} {sz a : Nat} (h : a ≤ sz) : a ≤ jT_f B sz a ∧ jT_f B sz a ≤ sz := by
  rcases Nat.lt_or_ge a sz with e | e
  · have := jT_f_b (B := B) e
    omega
  · have : jT_f B sz a = a := by unfold jT_f; rw [if_pos e]
    omega
theorem jT_E_le {B : Nat → Int32} {sz : Nat} : ∀ t, jT_E B sz t ≤ sz
  | 0 => Nat.zero_le _
  | t + 1 => (jT_f_le (jT_a_b (jT_E_le t)).2).2
/-- where token t begins -/
abbrev jT_p (B : Nat → Int32) (sz t : Nat) : Nat := jT_a B sz (jT_E B sz t)
theorem jT_p_le {B : Nat → Int32} {sz t : Nat} : jT_p B sz t ≤ sz := (jT_a_b (jT_E_le t)).2
theorem jT_p_nb {B : Nat → Int32} {sz t : Nat} (h : jT_p B sz t < sz) : jT_b (jT_c B sz (jT_p B sz t)) = false := jT_a_nb h (jT_E_le t)
theorem jT_k_0 {B : Nat → Int32} {sz a : Nat} (h : a < sz) : jT_k B sz a ≠ 0 := by
  unfold jT_k
  rw [if_neg (by omega)]
  split
  · split
    · decide
    · split <;> omega
  · split
    · split <;> decide
    · split
      · rename_i e
        intro z
        rw [z] at e
        revert e
        decide
      · decide
theorem jT_k_n2 {B : Nat → Int32} {sz a : Nat} (h : a < sz) (hl : jT_l (jT_c B sz a) = true) : ¬ jT_k B sz a = 2 := by
  unfold jT_k
  rw [if_neg (by omega), if_pos hl]
  split
  · decide
  · split <;> omega
theorem jT_k_lt {B : Nat → Int32} {sz a : Nat} : jT_k B sz a < 256 := by
  unfold jT_k
  have := jT_c_lt B sz a
  repeat' split
  all_goals omega
def jT_tk (h : jx_H) (B : Nat → Int32) (sz t : Nat) : Prop := jh_I h 18 0 t = nI (jT_k B sz (jT_p B sz t)) ∧ jh_I h 19 0 t = nI (jT_p B sz t) ∧ (jT_k B sz (jT_p B sz t) = 2 → jh_L h 20 0 t = lN (jT_v B sz (jT_p B sz t))) ∧ (jT_k B sz (jT_p B sz t) = 3 → jh_L h 20 0 t = jy_key (jT_wd B sz (jT_p B sz t)))
def jT_cur (h : jx_H) (B : Nat → Int32) (sz t : Nat) : Prop := jh_I h 9 0 7 = nI (t + 1) ∧ jh_I h 9 0 8 = nI (jT_k B sz (jT_p B sz t)) ∧ jh_I h 9 0 9 = nI (jT_p B sz t) ∧ (jT_k B sz (jT_p B sz t) = 2 → jh_I h 9 0 10 = nI (jT_v B sz (jT_p B sz t))) ∧ (jT_k B sz (jT_p B sz t) = 3 → jh_L h 9 0 11 = jy_key (jT_wd B sz (jT_p B sz t)))
def jT_G (h h' : jx_H) : Prop := (∀ a b, a ≠ 9 → jh_I h' a b = jh_I h a b) ∧ (∀ a b, a ≠ 9 → jh_L h' a b = jh_L h a b) ∧ h'.2.2 = h.2.2 ∧ (∀ f, f < 7 → jh_I h' 9 0 f = jh_I h 9 0 f)
/-- all tokens are cut -/
def jT_al (h : jx_H) (B : Nat → Int32) (sz T : Nat) : Prop := (∀ t, t ≤ T → jT_tk h B sz t) ∧ T ≤ 1700 ∧ jh_I h 9 0 6 = nI (T + 1) ∧ sz ≤ jT_p B sz T ∧ (∀ t, t < T → jT_p B sz t < sz) ∧ jh_I h 6 0 8 = 0 ∧ jh_I h 6 0 9 = -1
theorem jT_al_G {h h' : jx_H} {B : Nat → Int32} {sz T : Nat} (a : jT_al h B sz T) (g : jT_G h h') : jT_al h' B sz T := by
  obtain ⟨a1, a2, a3, a4, a5⟩ := a
  refine ⟨fun t ht => ?_, a2, (g.2.2.2 6 (by decide)).trans a3, a4, a5.1, (congrFun (g.1 6 0 (by decide)) 8).trans a5.2.1, (congrFun (g.1 6 0 (by decide)) 9).trans a5.2.2⟩
  obtain ⟨b1, b2, b3, b4⟩ := a1 t ht
  unfold jT_tk
  rw [g.1 18 0 (by decide), g.1 19 0 (by decide), g.2.1 20 0 (by decide)]
  exact ⟨b1, b2, b3, b4⟩
set_option maxHeartbeats 800000 in
set_option maxRecDepth 100000 in
theorem ev_take {d : Nat} {h : jx_H} {Q : Option jx_V → jx_H → Prop} {B : Nat → Int32} {sz T t : Nat} (ha : jT_al h B sz T) (hn : jh_I h 9 0 7 = nI t) (ht : t ≤ T) (k : ∀ h', jT_G h h' → jT_cur h' B sz t → Q none h')  : jx_Ev jm_Tape_take (d + 1) 0 0 false 0 [jv_r 9 0] h Q := by
  show jx_W (jm_Tape_take, d + 1, 0, 0, false, 0, _) Q 0 0 0 [some (jv_r 9 0)] [] _
  obtain ⟨a1, a2, a3, a4, a5⟩ := ha
  obtain ⟨b1, b2, b3, b4⟩ := a1 t ht
  refine jr_aload rfl rfl ?_
  refine jr_getI rfl rfl ?_
  refine jr_aload rfl rfl ?_
  refine jr_getI rfl rfl ?_
  rw [hn, a3]
  refine jr_icmp_ge rfl (fun z => absurd z (nI_ge (a := t) (b := T + 1) (by omega) (by omega))) (fun _ => ?_)
  refine jr_aload rfl rfl ?_
  refine jr_getI rfl rfl ?_
  refine jr_aload rfl rfl ?_
  refine jr_getR rfl rfl rfl rfl (Or.inl rfl) ?_
  refine jr_alen (so := 1) (len := 1701) rfl rfl rfl rfl ?_
  rw [hn]
  refine jr_icmp_ge rfl (fun z => absurd z (nI_ge (a := t) (b := 1701) (by omega) (by decide))) (fun _ => ?_)
  refine jr_aload rfl rfl ?_
  refine jr_aload rfl rfl ?_
  refine jr_getR rfl rfl rfl rfl (Or.inl rfl) ?_
  refine jr_aload rfl rfl ?_
  refine jr_getI rfl rfl ?_
  refine jr_iald (len := 1701) rfl rfl hn (by omega) ?_
  refine jr_putI rfl rfl ?_
  refine jr_aload rfl rfl ?_
  refine jr_aload rfl rfl ?_
  refine jr_getR rfl rfl rfl rfl (Or.inl rfl) ?_
  refine jr_aload rfl rfl ?_
  refine jr_getI rfl rfl ?_
  refine jr_iald (len := 1701) rfl rfl hn (by omega) ?_
  refine jr_putI rfl rfl ?_
  refine jr_aload rfl rfl ?_
  refine jr_aload rfl rfl ?_
  refine jr_getR rfl rfl rfl rfl (Or.inl rfl) ?_
  refine jr_aload rfl rfl ?_
  refine jr_getI rfl rfl ?_
  refine jr_lald (len := 1701) rfl rfl hn (by omega) ?_
  refine jr_l2i rfl ?_
  refine jr_putI rfl rfl ?_
  refine jr_aload rfl rfl ?_
  refine jr_aload rfl rfl ?_
  refine jr_getR rfl rfl rfl rfl (Or.inl rfl) ?_
  refine jr_aload rfl rfl ?_
  refine jr_getI rfl rfl ?_
  refine jr_lald (len := 1701) rfl rfl hn (by omega) ?_
  refine jr_putL rfl rfl ?_
  refine jr_aload rfl rfl ?_
  refine jr_dup_r rfl ?_
  refine jr_getI rfl rfl ?_
  refine jr_ic rfl ?_
  refine jr_iadd rfl ?_
  refine jr_putI rfl rfl ?_
  refine jr_vret rfl rfl (Nat.zero_le _) (Nat.zero_le _) ?_
  refine k _ ⟨fun a b z => ?_, fun a b z => ?_, rfl, fun f hf => ?_⟩ ⟨?_, ?_, ?_, fun z => ?_, fun z => ?_⟩
  · exact (if_neg (fun y => z y.1)).trans ((if_neg (fun y => z y.1)).trans ((if_neg (fun y => z y.1)).trans (if_neg (fun y => z y.1)))) 
  · exact if_neg (fun y => z y.1)
  · have n7 : f ≠ 7 := by omega
    have n8 : f ≠ 8 := by omega
    have n9 : f ≠ 9 := by omega
    have n10 : f ≠ 10 := by omega
    show upd (upd (upd (upd (jh_I h 9 0) 8 _) 9 _) 10 _) 7 _ f = _
    rw [jg_un n7, jg_un n10, jg_un n9, jg_un n8]
  · exact (congrArg (· + 1) hn).trans (jn_S t)
  · exact b1
  · exact b2
  · exact (congrArg Int64.toInt32 (b3 z)).trans (lN_i _)
  · exact b4 z

theorem jx_fnd_no {i : Nat} {b : Int32} {n k : Nat} (h : ∀ j, k ≤ j → j < n → jx_bytS i j ≠ b) : jx_fnd i b n k = -1 := by
  rw [jx_fnd]
  by_cases e : k < n
  · rw [if_pos e, if_neg (h k (Nat.le_refl _) e)]
    exact jx_fnd_no (fun j h1 h2 => h j (by omega) h2)
  · rw [if_neg e]
termination_by n - k
theorem jx_fnd_yes {i : Nat} {b : Int32} {n k : Nat} (hn : n < 2 ^ 31) (h : ∃ j, k ≤ j ∧ j < n ∧ jx_bytS i j = b) : ¬ jx_fnd i b n k < 0 := by
  rw [jx_fnd]
  obtain ⟨j, h1, h2, h3⟩ := h
  rw [if_pos (by omega)]
  by_cases e : jx_bytS i k = b
  · rw [if_pos e]
    exact nI_pos (by omega)
  · rw [if_neg e]
    refine jx_fnd_yes hn ⟨j, ?_, h2, h3⟩
    rcases Nat.eq_or_lt_of_le h1 with q | q
    · rw [q] at e; exact absurd h3 e
    · exact q
termination_by n - k
theorem jT_sgT : ∀ c, c < 256 → ((List.range 11).any (fun j => jx_bytS 1 j == ((nI c).toUInt32 % 65536).toInt32.toInt8.toInt32)) = jT_sg c := by decide +kernel
theorem jT_sg_of {c : Nat} (hc : c < 256) (h : ¬ (if 0 ≤ ((nI c).toUInt32 % 65536).toInt32 ∧ ((nI c).toUInt32 % 65536).toInt32 ≤ 255 then jx_fnd 1 ((nI c).toUInt32 % 65536).toInt32.toInt8.toInt32 (jx_lenS 1) 0 else -1) < 0) : jT_sg c = true := by
  rw [← jT_sgT c hc]
  refine Decidable.byContradiction fun z => h ?_
  split
  · rw [jx_fnd_no (n := jx_lenS 1) (fun j _ hj e => z (List.any_eq_true.mpr ⟨j, List.mem_range.mpr hj, by rw [e]; exact beq_self_eq_true _⟩))]
    decide
  · decide
theorem jT_chT : ∀ c, c < 256 → (0 ≤ ((nI c).toUInt32 % 65536).toInt32 ∧ ((nI c).toUInt32 % 65536).toInt32 ≤ 255) := by decide +kernel
theorem jT_sg_no {c : Nat} (hc : c < 256) (h : (if 0 ≤ ((nI c).toUInt32 % 65536).toInt32 ∧ ((nI c).toUInt32 % 65536).toInt32 ≤ 255 then jx_fnd 1 ((nI c).toUInt32 % 65536).toInt32.toInt8.toInt32 (jx_lenS 1) 0 else -1) < 0) : ¬ jT_sg c = true := by
  intro z
  rw [← jT_sgT c hc, List.any_eq_true] at z
  obtain ⟨j, h1, h2⟩ := z
  rw [if_pos (jT_chT c hc)] at h
  exact jx_fnd_yes (by decide) ⟨j, Nat.zero_le _, List.mem_range.mp h1, beq_iff_eq.mp h2⟩ h
theorem jT_sg_23 {c : Nat} (h : jT_sg c = true) : c ≠ 2 ∧ c ≠ 3 := by
  constructor <;> (intro z; rw [z] at h; revert h; decide)
set_option maxHeartbeats 800000 in
set_option maxRecDepth 100000 in
theorem lp_cut {d n0 : Nat} {Q : Option jx_V → jx_H → Prop} {h0 h : jx_H} {B : Nat → Int32} {sz : Nat} (i s n : Nat) (x3 : Option jx_V) (hsz : sz ≤ 1700) (hWo : jz_Wo h) (hB : jh_I h 16 0 = B) (hS : jh_I h 9 0 5 = nI sz) (hn : jh_I h 9 0 6 = nI n) (hF : jT_F h0 h) (hT : ∀ t, t < n → jT_tk h B sz t ∧ jT_p B sz t < sz) (hni : n ≤ i) (hsi : s ≤ i) (hEi : jT_E B sz n ≤ i) (his : i ≤ sz) (hai : jT_a B sz i = jT_p B sz n) (hf : jh_I h0 6 0 8 = 0 ∧ jh_I h0 6 0 9 = -1) (k : ∀ (h' : jx_H) (T : Nat), jT_F h0 h' → jh_I h' 16 0 = B → jh_I h' 9 0 5 = nI sz → jT_al h' B sz T → jT_cur h' B sz 0 → Q none h')  : jx_W (jm_Tape_cut, d + 8, 0, 0, false, 0, n0) Q 0 0 7 [some (jv_r 9 0), some (jv_i (nI i)), some (jv_i (nI s)), x3] [] h := by
  refine jr_iload rfl rfl ?_
  refine jr_ic rfl ?_
  refine jr_icmp_ge rfl (fun c9 => ?_) (fun c9 => ?_)
  · have hi2 : i = sz := by have := jn_le (show nI 1700 ≤ nI s from c9) (by omega) (by omega); omega
    have hp : jT_p B sz n = sz := by
      rw [← hai, hi2]
      exact jT_run_0 (Nat.le_refl _)
    have hk0 : jT_k B sz sz = 0 := if_pos (Nat.le_refl _)
    refine jr_aload rfl rfl ?_
    refine jr_ic rfl ?_
    refine jr_aload rfl rfl ?_
    refine jr_getI rfl rfl ?_
    rw [hS]
    refine jr_lc rfl ?_
    refine jr_cv3 (mc' := 0) (ms' := 0) rfl jm_Tape_lay_n jm_Tape_lay_f rfl rfl rfl rfl rfl rfl rfl (Nat.zero_le _) (Nat.zero_le _) ?_
    refine ev_lay hn (by omega) (fun h1 y1 => ?_)
    have hal1 : jT_al h1 B sz n := ⟨fun t ht => by
      unfold jT_tk
      rw [y1.1, y1.2.1, y1.2.2.1]
      by_cases z : t = n
      · rw [z, jg_us, jg_us, hp, hk0]
        exact ⟨rfl, rfl, fun z => absurd z (by decide), fun z => absurd z (by decide)⟩
      · rw [jg_un z, jg_un z, jg_Lun z]
        exact (hT t (by omega)).1, by omega, (congrFun y1.2.2.2.1 6).trans (jg_us _ _ _), Nat.le_of_eq hp.symm, fun t ht => (hT t ht).2, (congrFun ((jT_F_t hF y1.2.2.2.2).1 6 0 (by decide) (by decide) (by decide)) 8).trans hf.1, (congrFun ((jT_F_t hF y1.2.2.2.2).1 6 0 (by decide) (by decide) (by decide)) 9).trans hf.2⟩
    refine jr_aload rfl rfl ?_
    refine jr_ic rfl ?_
    refine jr_putI rfl rfl ?_
    refine jr_aload rfl rfl ?_
    refine jr_cv0 (mc' := 0) (ms' := 0) rfl jm_Tape_take_n jm_Tape_take_f rfl rfl rfl rfl rfl rfl rfl (Nat.zero_le _) (Nat.zero_le _) ?_
    have hal2 : jT_al (ju_I h1 9 0 (upd (jh_I h1 9 0) 7 0)) B sz n := jT_al_G hal1 ⟨fun a b z => if_neg (fun y => z y.1), fun _ _ _ => rfl, rfl, fun f hf => jg_un (by omega)⟩
    refine ev_take (T := n) (t := 0) hal2 (show jh_I (ju_I h1 9 0 (upd (jh_I h1 9 0) 7 0)) 9 0 7 = 0 from jg_us (jh_I h1 9 0) 7 0) (Nat.zero_le _) (fun h3 g3 c3 => ?_)
    have hF3 : jT_F h0 h3 := jT_F_t (jT_F_t hF y1.2.2.2.2) ⟨fun a b z1 z2 z3 => (g3.1 a b z1).trans (if_neg (fun y => z1 y.1)), fun a b z1 z2 => g3.2.1 a b z1, g3.2.2.1⟩
    have hal3 := jT_al_G hal2 g3
    refine jr_vret rfl rfl (Nat.zero_le _) (Nat.zero_le _) ?_
    refine k h3 n hF3 ?_ ?_ hal3 c3
    · exact (g3.1 16 0 (by decide)).trans ((y1.2.2.2.2.1 16 0 (by decide) (by decide) (by decide)).trans hB)
    · refine (g3.2.2.2 5 (by decide)).trans ?_
      refine (congrFun (jg_II _ _ _ _) 5).trans ?_
      refine (jg_un (by decide)).trans ?_
      exact (congrFun y1.2.2.2.1 5).trans ((jg_un (by decide)).trans hS)
  · refine jr_iload rfl rfl ?_
    refine jr_aload rfl rfl ?_
    refine jr_getI rfl rfl ?_
    rw [hS]
    refine jr_icmp_ge rfl (fun c13 => ?_) (fun c13 => ?_)
    · have hi2 : i = sz := by have := jn_le (show nI sz ≤ nI i from c13) (by omega) (by omega); omega
      have hp : jT_p B sz n = sz := by
        rw [← hai, hi2]
        exact jT_run_0 (Nat.le_refl _)
      have hk0 : jT_k B sz sz = 0 := if_pos (Nat.le_refl _)
      refine jr_aload rfl rfl ?_
      refine jr_ic rfl ?_
      refine jr_aload rfl rfl ?_
      refine jr_getI rfl rfl ?_
      rw [hS]
      refine jr_lc rfl ?_
      refine jr_cv3 (mc' := 0) (ms' := 0) rfl jm_Tape_lay_n jm_Tape_lay_f rfl rfl rfl rfl rfl rfl rfl (Nat.zero_le _) (Nat.zero_le _) ?_
      refine ev_lay hn (by omega) (fun h1 y1 => ?_)
      have hal1 : jT_al h1 B sz n := ⟨fun t ht => by
        unfold jT_tk
        rw [y1.1, y1.2.1, y1.2.2.1]
        by_cases z : t = n
        · rw [z, jg_us, jg_us, hp, hk0]
          exact ⟨rfl, rfl, fun z => absurd z (by decide), fun z => absurd z (by decide)⟩
        · rw [jg_un z, jg_un z, jg_Lun z]
          exact (hT t (by omega)).1, by omega, (congrFun y1.2.2.2.1 6).trans (jg_us _ _ _), Nat.le_of_eq hp.symm, fun t ht => (hT t ht).2, (congrFun ((jT_F_t hF y1.2.2.2.2).1 6 0 (by decide) (by decide) (by decide)) 8).trans hf.1, (congrFun ((jT_F_t hF y1.2.2.2.2).1 6 0 (by decide) (by decide) (by decide)) 9).trans hf.2⟩
      refine jr_aload rfl rfl ?_
      refine jr_ic rfl ?_
      refine jr_putI rfl rfl ?_
      refine jr_aload rfl rfl ?_
      refine jr_cv0 (mc' := 0) (ms' := 0) rfl jm_Tape_take_n jm_Tape_take_f rfl rfl rfl rfl rfl rfl rfl (Nat.zero_le _) (Nat.zero_le _) ?_
      have hal2 : jT_al (ju_I h1 9 0 (upd (jh_I h1 9 0) 7 0)) B sz n := jT_al_G hal1 ⟨fun a b z => if_neg (fun y => z y.1), fun _ _ _ => rfl, rfl, fun f hf => jg_un (by omega)⟩
      refine ev_take (T := n) (t := 0) hal2 (show jh_I (ju_I h1 9 0 (upd (jh_I h1 9 0) 7 0)) 9 0 7 = 0 from jg_us (jh_I h1 9 0) 7 0) (Nat.zero_le _) (fun h3 g3 c3 => ?_)
      have hF3 : jT_F h0 h3 := jT_F_t (jT_F_t hF y1.2.2.2.2) ⟨fun a b z1 z2 z3 => (g3.1 a b z1).trans (if_neg (fun y => z1 y.1)), fun a b z1 z2 => g3.2.1 a b z1, g3.2.2.1⟩
      have hal3 := jT_al_G hal2 g3
      refine jr_vret rfl rfl (Nat.zero_le _) (Nat.zero_le _) ?_
      refine k h3 n hF3 ?_ ?_ hal3 c3
      · exact (g3.1 16 0 (by decide)).trans ((y1.2.2.2.2.1 16 0 (by decide) (by decide) (by decide)).trans hB)
      · refine (g3.2.2.2 5 (by decide)).trans ?_
        refine (congrFun (jg_II _ _ _ _) 5).trans ?_
        refine (jg_un (by decide)).trans ?_
        exact (congrFun y1.2.2.2.1 5).trans ((jg_un (by decide)).trans hS)
    · have hi1 : i < sz := jn_nle (show ¬ nI sz ≤ nI i from c13) (by omega) (by omega)
      refine jr_aload rfl rfl ?_
      refine jr_iload rfl rfl ?_
      refine jr_cv1 (mc' := 0) (ms' := 0) rfl jm_Tape_at_n jm_Tape_at_f rfl rfl rfl rfl rfl rfl rfl (Nat.zero_le _) (Nat.zero_le _) ?_
      refine ev_at hS hsz (by omega) ?_
      rw [hB]
      refine jr_ist3 rfl rfl ?_
      refine jr_iload rfl rfl ?_
      refine jr_cs1 (mc' := 0) (ms' := 0) rfl jm_Tape_isBlank_n jm_Tape_isBlank_f rfl rfl rfl rfl rfl (Nat.zero_le _) (Nat.zero_le _) ?_
      refine ev_isBlank (jT_c_lt _ _ _) ?_
      refine jr_if_eq rfl (fun c20 => ?_) (fun c20 => ?_)
      · refine jr_iload rfl rfl ?_
        refine jr_cs1 (mc' := 0) (ms' := 0) rfl jm_Tape_isLetter_n jm_Tape_isLetter_f rfl rfl rfl rfl rfl (Nat.zero_le _) (Nat.zero_le _) ?_
        refine ev_isLetter (jT_c_lt _ _ _) ?_
        refine jr_if_eq rfl (fun c25 => ?_) (fun c25 => ?_)
        · refine jr_iload rfl rfl ?_
          refine jr_cs1 (mc' := 0) (ms' := 0) rfl jm_Tape_isDigit_n jm_Tape_isDigit_f rfl rfl rfl rfl rfl (Nat.zero_le _) (Nat.zero_le _) ?_
          refine ev_isDigit (jT_c_lt _ _ _) ?_
          refine jr_if_eq rfl (fun c33 => ?_) (fun c33 => ?_)
          · refine jr_aload rfl rfl ?_
            refine jr_ldcS rfl (by decide) rfl rfl ?_
            refine jr_iload rfl rfl ?_
            refine jr_i2c rfl ?_
            refine jr_ct1 (mc' := 0) (ms' := 0) rfl jm_Str_indexOf_n jm_Str_indexOf_f rfl rfl rfl rfl rfl rfl (Nat.zero_le _) (Nat.zero_le _) ?_
            refine ev_Str_indexOf (by decide) (by decide) ?_
            refine jr_if_lt rfl (fun c44 => ?_) (fun c44 => ?_)
            · refine jr_ic rfl ?_
              refine jr_iload rfl rfl ?_
              refine jr_lc rfl ?_
              refine jr_cv3 (mc' := 0) (ms' := 0) rfl jm_Tape_lay_n jm_Tape_lay_f rfl rfl rfl rfl rfl rfl rfl (Nat.zero_le _) (Nat.zero_le _) ?_
              refine ev_lay hn (by omega) (fun h1 y1 => ?_)
              refine jr_iinc1 rfl rfl ?_
              refine jr_iinc2 rfl rfl ?_
              refine jr_goto rfl ?_
              have hb : ¬ jT_b (jT_c B sz i) = true := jf_0 c20
              have hia : jT_a B sz i = i := by
                unfold jT_a
                rw [jT_run_s hi1, if_neg hb]
              have hp : jT_p B sz n = i := hai.symm.trans hia
              have hf1 : jT_f B sz i = i + 1 := by
                unfold jT_f
                rw [if_neg (by omega), if_neg (jf_0 c25), if_neg (jf_0 c33)]
              have hk1 : jT_k B sz i = if jT_sg (jT_c B sz i) = true then jT_c B sz i else 1 := by
                unfold jT_k
                rw [if_neg (by omega), if_neg (jf_0 c25), if_neg (jf_0 c33)]
              have hc7 := jT_c_lt B sz i
              rw [jn_S]
              have hsg := jT_sg_no hc7 c44
              rw [if_neg hsg] at hk1
              rw [jn_S]
              refine lp_cut (i + 1) (s + 1) (n + 1) _ hsz (fun j hj => (congrFun (y1.2.2.2.2.2.1 17 0 (by decide) (by decide)) j).trans (hWo j hj)) ((y1.2.2.2.2.1 16 0 (by decide) (by decide) (by decide)).trans hB) ((congrFun y1.2.2.2.1 5).trans ((jg_un (by decide)).trans hS)) ((congrFun y1.2.2.2.1 6).trans (jg_us _ _ _)) (jT_F_t hF y1.2.2.2.2) (fun t ht => ?_) (by omega) (by omega) (Nat.le_of_eq (by show jT_f B sz (jT_p B sz n) = _; rw [hp, hf1])) (by omega) (by show jT_a B sz _ = jT_a B sz (jT_f B sz (jT_p B sz n)); rw [hp, hf1]) hf k
              rcases Nat.lt_succ_iff_lt_or_eq.mp ht with z | z
              · obtain ⟨g1, g2⟩ := hT t z
                refine ⟨?_, g2⟩
                unfold jT_tk
                rw [y1.1, y1.2.1, y1.2.2.1, jg_un (by omega), jg_un (by omega), jg_Lun (by omega)]
                exact g1
              · subst z
                refine ⟨?_, by rw [hp]; omega⟩
                unfold jT_tk
                rw [y1.1, y1.2.1, y1.2.2.1, jg_us, jg_us, jg_Lus, hp]
                exact ⟨by rw [hk1]; rfl, rfl, fun z => absurd (hk1.symm.trans z) (by decide), fun z => absurd (hk1.symm.trans z) (by decide)⟩
            · refine jr_iload rfl rfl ?_
              refine jr_goto rfl ?_
              refine jr_iload rfl rfl ?_
              refine jr_lc rfl ?_
              refine jr_cv3 (mc' := 0) (ms' := 0) rfl jm_Tape_lay_n jm_Tape_lay_f rfl rfl rfl rfl rfl rfl rfl (Nat.zero_le _) (Nat.zero_le _) ?_
              refine ev_lay hn (by omega) (fun h1 y1 => ?_)
              refine jr_iinc1 rfl rfl ?_
              refine jr_iinc2 rfl rfl ?_
              refine jr_goto rfl ?_
              have hb : ¬ jT_b (jT_c B sz i) = true := jf_0 c20
              have hia : jT_a B sz i = i := by
                unfold jT_a
                rw [jT_run_s hi1, if_neg hb]
              have hp : jT_p B sz n = i := hai.symm.trans hia
              have hf1 : jT_f B sz i = i + 1 := by
                unfold jT_f
                rw [if_neg (by omega), if_neg (jf_0 c25), if_neg (jf_0 c33)]
              have hk1 : jT_k B sz i = if jT_sg (jT_c B sz i) = true then jT_c B sz i else 1 := by
                unfold jT_k
                rw [if_neg (by omega), if_neg (jf_0 c25), if_neg (jf_0 c33)]
              have hc7 := jT_c_lt B sz i
              rw [jn_S]
              have hsg := jT_sg_of hc7 c44
              rw [if_pos hsg] at hk1
              rw [jn_S]
              refine lp_cut (i + 1) (s + 1) (n + 1) _ hsz (fun j hj => (congrFun (y1.2.2.2.2.2.1 17 0 (by decide) (by decide)) j).trans (hWo j hj)) ((y1.2.2.2.2.1 16 0 (by decide) (by decide) (by decide)).trans hB) ((congrFun y1.2.2.2.1 5).trans ((jg_un (by decide)).trans hS)) ((congrFun y1.2.2.2.1 6).trans (jg_us _ _ _)) (jT_F_t hF y1.2.2.2.2) (fun t ht => ?_) (by omega) (by omega) (Nat.le_of_eq (by show jT_f B sz (jT_p B sz n) = _; rw [hp, hf1])) (by omega) (by show jT_a B sz _ = jT_a B sz (jT_f B sz (jT_p B sz n)); rw [hp, hf1]) hf k
              rcases Nat.lt_succ_iff_lt_or_eq.mp ht with z | z
              · obtain ⟨g1, g2⟩ := hT t z
                refine ⟨?_, g2⟩
                unfold jT_tk
                rw [y1.1, y1.2.1, y1.2.2.1, jg_un (by omega), jg_un (by omega), jg_Lun (by omega)]
                exact g1
              · subst z
                refine ⟨?_, by rw [hp]; omega⟩
                unfold jT_tk
                rw [y1.1, y1.2.1, y1.2.2.1, jg_us, jg_us, jg_Lus, hp]
                exact ⟨by rw [hk1], rfl, fun z => absurd (hk1.symm.trans z) (jT_sg_23 hsg).1, fun z => absurd (hk1.symm.trans z) (jT_sg_23 hsg).2⟩
          · refine jr_aload rfl rfl ?_
            refine jr_iload rfl rfl ?_
            refine jr_cv1 (mc' := 0) (ms' := 0) rfl jm_Tape_cutNumber_n jm_Tape_cutNumber_f rfl rfl rfl rfl rfl rfl rfl (Nat.zero_le _) (Nat.zero_le _) ?_
            refine ev_cutNumber hS hsz hn (by omega) hi1 (by rw [hB]; exact jf_0 c25) (by rw [hB]; exact jf_1 c33) (fun h1 v1 y1 e3 => ?_)
            rw [hB] at y1 e3 ⊢
            refine jr_ist1 rfl rfl ?_
            refine jr_goto rfl ?_
            refine jr_iinc2 rfl rfl ?_
            refine jr_goto rfl ?_
            have hb : ¬ jT_b (jT_c B sz i) = true := jf_0 c20
            have hia : jT_a B sz i = i := by
              unfold jT_a
              rw [jT_run_s hi1, if_neg hb]
            have hp : jT_p B sz n = i := hai.symm.trans hia
            have hfb := jT_f_b (B := B) hi1
            rw [jn_S]
            refine lp_cut (jT_f B sz i) (s + 1) (n + 1) _ hsz (fun j hj => (congrFun (y1.2.2.2.2.2.1 17 0 (by decide) (by decide)) j).trans (hWo j hj)) ((y1.2.2.2.2.1 16 0 (by decide) (by decide) (by decide)).trans hB) ((congrFun y1.2.2.2.1 5).trans ((jg_un (by decide)).trans hS)) ((congrFun y1.2.2.2.1 6).trans (jg_us _ _ _)) (jT_F_t hF y1.2.2.2.2) (fun t ht => ?_) (by omega) (by omega) (Nat.le_of_eq (by show jT_f B sz (jT_p B sz n) = _; rw [hp])) (by omega) (by show jT_a B sz _ = jT_a B sz (jT_f B sz (jT_p B sz n)); rw [hp]) hf k
            rcases Nat.lt_succ_iff_lt_or_eq.mp ht with z | z
            · obtain ⟨g1, g2⟩ := hT t z
              refine ⟨?_, g2⟩
              unfold jT_tk
              rw [y1.1, y1.2.1, y1.2.2.1, jg_un (by omega), jg_un (by omega), jg_Lun (by omega)]
              exact g1
            · subst z
              refine ⟨?_, by rw [hp]; omega⟩
              unfold jT_tk
              rw [y1.1, y1.2.1, y1.2.2.1, jg_us, jg_us, jg_Lus, hp]
              exact ⟨rfl, rfl, e3, fun z => absurd z (by have hnl := jf_0 c25; have hd := jf_1 c33; unfold jT_k; rw [if_neg (by omega), if_neg hnl, if_pos hd]; split <;> decide)⟩
        · refine jr_aload rfl rfl ?_
          refine jr_iload rfl rfl ?_
          refine jr_cv1 (mc' := 0) (ms' := 0) rfl jm_Tape_cutWord_n jm_Tape_cutWord_f rfl rfl rfl rfl rfl rfl rfl (Nat.zero_le _) (Nat.zero_le _) ?_
          refine ev_cutWord hS hsz hWo hn (by omega) hi1 (by rw [hB]; exact jf_1 c25) (fun h1 v1 y1 e3 => ?_)
          rw [hB] at y1 e3 ⊢
          refine jr_ist1 rfl rfl ?_
          refine jr_goto rfl ?_
          refine jr_iinc2 rfl rfl ?_
          refine jr_goto rfl ?_
          have hb : ¬ jT_b (jT_c B sz i) = true := jf_0 c20
          have hia : jT_a B sz i = i := by
            unfold jT_a
            rw [jT_run_s hi1, if_neg hb]
          have hp : jT_p B sz n = i := hai.symm.trans hia
          have hfb := jT_f_b (B := B) hi1
          rw [jn_S]
          refine lp_cut (jT_f B sz i) (s + 1) (n + 1) _ hsz (fun j hj => (congrFun (y1.2.2.2.2.2.1 17 0 (by decide) (by decide)) j).trans (hWo j hj)) ((y1.2.2.2.2.1 16 0 (by decide) (by decide) (by decide)).trans hB) ((congrFun y1.2.2.2.1 5).trans ((jg_un (by decide)).trans hS)) ((congrFun y1.2.2.2.1 6).trans (jg_us _ _ _)) (jT_F_t hF y1.2.2.2.2) (fun t ht => ?_) (by omega) (by omega) (Nat.le_of_eq (by show jT_f B sz (jT_p B sz n) = _; rw [hp])) (by omega) (by show jT_a B sz _ = jT_a B sz (jT_f B sz (jT_p B sz n)); rw [hp]) hf k
          rcases Nat.lt_succ_iff_lt_or_eq.mp ht with z | z
          · obtain ⟨g1, g2⟩ := hT t z
            refine ⟨?_, g2⟩
            unfold jT_tk
            rw [y1.1, y1.2.1, y1.2.2.1, jg_un (by omega), jg_un (by omega), jg_Lun (by omega)]
            exact g1
          · subst z
            refine ⟨?_, by rw [hp]; omega⟩
            unfold jT_tk
            rw [y1.1, y1.2.1, y1.2.2.1, jg_us, jg_us, jg_Lus, hp]
            exact ⟨rfl, rfl, fun z => absurd z (jT_k_n2 hi1 (jf_1 c25)), e3⟩
      · refine jr_iinc1 rfl rfl ?_
        refine jr_goto rfl ?_
        refine jr_iinc2 rfl rfl ?_
        refine jr_goto rfl ?_
        have hb : jT_b (jT_c B sz i) = true := jf_1 c20
        rw [jn_S, jn_S]
        refine lp_cut (i + 1) (s + 1) n _ hsz hWo hB hS hn hF hT (by omega) (by omega) (by omega) (by omega) ?_ hf k
        rw [← hai]
        unfold jT_a
        rw [jT_run_s hi1, if_pos hb]
termination_by sz - i
decreasing_by all_goals omega

set_option maxHeartbeats 800000 in
set_option maxRecDepth 100000 in
theorem ev_cut {d : Nat} {h : jx_H} {Q : Option jx_V → jx_H → Prop} {B : Nat → Int32} {sz : Nat} (hsz : sz ≤ 1700) (hWo : jz_Wo h) (hB : jh_I h 16 0 = B) (hS : jh_I h 9 0 5 = nI sz) (hf : jh_I h 6 0 8 = 0 ∧ jh_I h 6 0 9 = -1) (k : ∀ (h' : jx_H) (T : Nat), jT_F h h' → jh_I h' 16 0 = B → jh_I h' 9 0 5 = nI sz → jT_al h' B sz T → jT_cur h' B sz 0 → Q none h')  : jx_Ev jm_Tape_cut (d + 8) 0 0 false 0 [jv_r 9 0] h Q := by
  show jx_W (jm_Tape_cut, d + 8, 0, 0, false, 0, _) Q 0 0 0 [some (jv_r 9 0), none, none, none] [] _
  refine jr_aload rfl rfl ?_
  refine jr_ic rfl ?_
  refine jr_putI rfl rfl ?_
  refine jr_ic rfl ?_
  refine jr_ist1 rfl rfl ?_
  refine jr_ic rfl ?_
  refine jr_ist2 rfl rfl ?_
  refine lp_cut (h0 := h) (B := B) 0 0 0 _ hsz hWo hB ?_ (congrFun (jg_II _ _ _ _) 6) ⟨fun a b z1 z2 z3 => if_neg (fun y => z1 y.1), fun _ _ _ _ => rfl, rfl⟩ (fun t ht => absurd ht (by omega)) (Nat.zero_le _) (Nat.zero_le _) (Nat.zero_le _) (Nat.zero_le _) rfl hf k
  exact (congrFun (jg_II _ _ _ _) 5).trans ((jg_un (by decide)).trans hS)

