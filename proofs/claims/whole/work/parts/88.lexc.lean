theorem jf_1 {p : Bool} (h : ¬ (if p = true then (1 : Int32) else 0) = 0) : p = true := Decidable.byContradiction fun z => h (if_neg z)
theorem jf_0 {p : Bool} (h : (if p = true then (1 : Int32) else 0) = 0) : ¬ p = true := fun z => by
  rw [if_pos z] at h
  exact absurd h (by decide)
def jT_F (h h' : jx_H) : Prop := (∀ a b, a ≠ 9 → a ≠ 18 → a ≠ 19 → jh_I h' a b = jh_I h a b) ∧ (∀ a b, a ≠ 9 → a ≠ 20 → jh_L h' a b = jh_L h a b) ∧ h'.2.2 = h.2.2
theorem jT_F_t {h h1 h2 : jx_H} (f : jT_F h h1) (g : jT_F h1 h2) : jT_F h h2 := ⟨fun a b z1 z2 z3 => (g.1 a b z1 z2 z3).trans (f.1 a b z1 z2 z3), fun a b z1 z2 => (g.2.1 a b z1 z2).trans (f.2.1 a b z1 z2), g.2.2.trans f.2.2⟩
def jT_y (h h' : jx_H) (n : Nat) (k p : Int32) (v : Int64) : Prop := jh_I h' 18 0 = upd (jh_I h 18 0) n k ∧ jh_I h' 19 0 = upd (jh_I h 19 0) n p ∧ jh_L h' 20 0 = vp_updL (jh_L h 20 0) n v ∧ jh_I h' 9 0 = upd (jh_I h 9 0) 6 (nI (n + 1)) ∧ jT_F h h'
theorem lg_cmp1 {x y : Int64} (h : x = y) : lg_cmp x y = 0 := by
  subst h
  unfold lg_cmp
  rw [if_neg (fun z => Int64.lt_irrefl z), if_pos rfl]
theorem lg_cmp0 {x y : Int64} (h : lg_cmp x y = 0) : x = y := by
  unfold lg_cmp at h
  by_cases a : x > y
  · rw [if_pos a] at h; exact absurd h (by decide)
  · rw [if_neg a] at h
    by_cases b : x = y
    · exact b
    · rw [if_neg b] at h; exact absurd h (by decide)
set_option maxHeartbeats 800000 in
set_option maxRecDepth 100000 in
theorem ev_at {d : Nat} {h : jx_H} {Q : Option jx_V → jx_H → Prop} {sz i : Nat} (hS : jh_I h 9 0 5 = nI sz) (hsz : sz ≤ 1700) (hi : i < 2 ^ 31) (k : Q (some (jv_i (nI (jT_c (jh_I h 16 0) sz i)))) h)  : jx_Ev jm_Tape_at (d + 1) 0 0 false 0 [jv_r 9 0, jv_i (nI i)] h Q := by
  show jx_W (jm_Tape_at, d + 1, 0, 0, false, 0, _) Q 0 0 0 [some (jv_r 9 0), some (jv_i (nI i))] [] _
  refine jr_iload rfl rfl ?_
  refine jr_if_lt rfl (fun z => absurd z (nI_pos hi)) (fun _ => ?_)
  refine jr_iload rfl rfl ?_
  refine jr_aload rfl rfl ?_
  refine jr_getI rfl rfl ?_
  rw [hS]
  refine jr_icmp_ge rfl (fun c5 => ?_) (fun c5 => ?_)
  · refine jr_ic rfl ?_
    refine jr_iret rfl rfl (Nat.zero_le _) (Nat.zero_le _) ?_
    rw [jT_c_0 (jn_le (show nI sz ≤ nI i from c5) (by omega) (by omega))] at k
    exact k
  · have hi1 : i < sz := jn_nle (show ¬ nI sz ≤ nI i from c5) (by omega) (by omega)
    refine jr_iload rfl rfl ?_
    refine jr_aload rfl rfl ?_
    refine jr_getR rfl rfl rfl rfl (Or.inl rfl) ?_
    refine jr_alen (so := 2) (len := 1700) rfl rfl rfl rfl ?_
    refine jr_icmp_ge rfl (fun z => absurd z (nI_ge (a := i) (b := 1700) (by omega) (by decide))) (fun _ => ?_)
    refine jr_aload rfl rfl ?_
    refine jr_getR rfl rfl rfl rfl (Or.inl rfl) ?_
    refine jr_iload rfl rfl ?_
    refine jr_bald (len := 1700) rfl rfl rfl (by omega) ?_
    refine jr_ic rfl ?_
    refine jr_iand rfl ?_
    refine jr_goto rfl ?_
    refine jr_iret rfl rfl (Nat.zero_le _) (Nat.zero_le _) ?_
    rw [← jT_c_eq hi1] at k
    exact k

set_option maxHeartbeats 800000 in
set_option maxRecDepth 100000 in
theorem ev_isBlank {d : Nat} {h : jx_H} {Q : Option jx_V → jx_H → Prop} {c : Nat} (hc : c < 256) (k : Q (some (jv_i (if jT_b c = true then 1 else 0))) h)  : jx_Ev jm_Tape_isBlank (d) 0 0 false 0 [jv_i (nI c)] h Q := by
  show jx_W (jm_Tape_isBlank, d, 0, 0, false, 0, _) Q 0 0 0 [some (jv_i (nI c))] [] _
  refine jr_iload rfl rfl ?_
  refine jr_ic rfl ?_
  refine jr_icmp_eq rfl (fun c2 => ?_) (fun c2 => ?_)
  · refine jr_ic rfl ?_
    refine jr_goto rfl ?_
    refine jr_zret rfl rfl rfl (Nat.zero_le _) (Nat.zero_le _) ?_
    rw [if_pos (jT_b_iff.mpr (Or.inl (jn_eq (show nI c = nI 32 from c2) (by omega) (by decide))))] at k
    exact k
  · refine jr_iload rfl rfl ?_
    refine jr_ic rfl ?_
    refine jr_icmp_ne rfl (fun c5 => ?_) (fun c5 => ?_)
    · refine jr_ic rfl ?_
      refine jr_zret rfl rfl rfl (Nat.zero_le _) (Nat.zero_le _) ?_
      rw [if_neg (fun z => (jT_b_iff.mp z).elim (fun y => c2 (by rw [y]; rfl)) (fun y => c5 (by rw [y]; rfl)))] at k
      exact k
    · refine jr_ic rfl ?_
      refine jr_goto rfl ?_
      refine jr_zret rfl rfl rfl (Nat.zero_le _) (Nat.zero_le _) ?_
      rw [if_pos (jT_b_iff.mpr (Or.inr (jn_eq (show nI c = nI 10 from c5) (by omega) (by decide))))] at k
      exact k

set_option maxHeartbeats 800000 in
set_option maxRecDepth 100000 in
theorem ev_isLetter {d : Nat} {h : jx_H} {Q : Option jx_V → jx_H → Prop} {c : Nat} (hc : c < 256) (k : Q (some (jv_i (if jT_l c = true then 1 else 0))) h)  : jx_Ev jm_Tape_isLetter (d) 0 0 false 0 [jv_i (nI c)] h Q := by
  show jx_W (jm_Tape_isLetter, d, 0, 0, false, 0, _) Q 0 0 0 [some (jv_i (nI c))] [] _
  refine jr_iload rfl rfl ?_
  refine jr_ic rfl ?_
  refine jr_icmp_lt rfl (fun c2 => ?_) (fun c2 => ?_)
  · refine jr_ic rfl ?_
    refine jr_zret rfl rfl rfl (Nat.zero_le _) (Nat.zero_le _) ?_
    rw [if_neg (fun z => nI_nlt (jT_l_iff.mp z).1 (by omega) (show nI c < nI 97 from c2))] at k
    exact k
  · refine jr_iload rfl rfl ?_
    refine jr_ic rfl ?_
    refine jr_icmp_gt rfl (fun c5 => ?_) (fun c5 => ?_)
    · refine jr_ic rfl ?_
      refine jr_zret rfl rfl rfl (Nat.zero_le _) (Nat.zero_le _) ?_
      rw [if_neg (fun z => nI_nlt (jT_l_iff.mp z).2 (by decide) (show nI 122 < nI c from c5))] at k
      exact k
    · refine jr_ic rfl ?_
      refine jr_goto rfl ?_
      refine jr_zret rfl rfl rfl (Nat.zero_le _) (Nat.zero_le _) ?_
      rw [if_pos (jT_l_iff.mpr ⟨jn_nlt (show ¬ nI c < nI 97 from c2) (by omega) (by decide), jn_nlt (show ¬ nI 122 < nI c from c5) (by decide) (by omega)⟩)] at k
      exact k

set_option maxHeartbeats 800000 in
set_option maxRecDepth 100000 in
theorem ev_isDigit {d : Nat} {h : jx_H} {Q : Option jx_V → jx_H → Prop} {c : Nat} (hc : c < 256) (k : Q (some (jv_i (if jT_d c = true then 1 else 0))) h)  : jx_Ev jm_Tape_isDigit (d) 0 0 false 0 [jv_i (nI c)] h Q := by
  show jx_W (jm_Tape_isDigit, d, 0, 0, false, 0, _) Q 0 0 0 [some (jv_i (nI c))] [] _
  refine jr_iload rfl rfl ?_
  refine jr_ic rfl ?_
  refine jr_icmp_lt rfl (fun c2 => ?_) (fun c2 => ?_)
  · refine jr_ic rfl ?_
    refine jr_zret rfl rfl rfl (Nat.zero_le _) (Nat.zero_le _) ?_
    rw [if_neg (fun z => nI_nlt (jT_d_iff.mp z).1 (by omega) (show nI c < nI 48 from c2))] at k
    exact k
  · refine jr_iload rfl rfl ?_
    refine jr_ic rfl ?_
    refine jr_icmp_gt rfl (fun c5 => ?_) (fun c5 => ?_)
    · refine jr_ic rfl ?_
      refine jr_zret rfl rfl rfl (Nat.zero_le _) (Nat.zero_le _) ?_
      rw [if_neg (fun z => nI_nlt (jT_d_iff.mp z).2 (by decide) (show nI 57 < nI c from c5))] at k
      exact k
    · refine jr_ic rfl ?_
      refine jr_goto rfl ?_
      refine jr_zret rfl rfl rfl (Nat.zero_le _) (Nat.zero_le _) ?_
      rw [if_pos (jT_d_iff.mpr ⟨jn_nlt (show ¬ nI c < nI 48 from c2) (by omega) (by decide), jn_nlt (show ¬ nI 57 < nI c from c5) (by decide) (by omega)⟩)] at k
      exact k

set_option maxHeartbeats 800000 in
set_option maxRecDepth 100000 in
theorem ev_lay {d : Nat} {h : jx_H} {Q : Option jx_V → jx_H → Prop} {n : Nat} {x y : Int32} {v : Int64} (hn : jh_I h 9 0 6 = nI n) (hn2 : n ≤ 1700) (k : ∀ h', jT_y h h' n x y v → Q none h')  : jx_Ev jm_Tape_lay (d + 1) 0 0 false 0 [jv_r 9 0, jv_i x, jv_i y, jv_l v] h Q := by
  show jx_W (jm_Tape_lay, d + 1, 0, 0, false, 0, _) Q 0 0 0 [some (jv_r 9 0), some (jv_i x), some (jv_i y), some (jv_l v), none] [] _
  refine jr_aload rfl rfl ?_
  refine jr_getI rfl rfl ?_
  refine jr_aload rfl rfl ?_
  refine jr_getR rfl rfl rfl rfl (Or.inl rfl) ?_
  refine jr_alen (so := 1) (len := 1701) rfl rfl rfl rfl ?_
  rw [hn]
  refine jr_icmp_ge rfl (fun z => absurd z (nI_ge (a := n) (b := 1701) (by omega) (by decide))) (fun _ => ?_)
  refine jr_aload rfl rfl ?_
  refine jr_getR rfl rfl rfl rfl (Or.inl rfl) ?_
  refine jr_aload rfl rfl ?_
  refine jr_getI rfl rfl ?_
  refine jr_iload rfl rfl ?_
  refine jr_iast (len := 1701) rfl rfl hn (by omega) ?_
  refine jr_aload rfl rfl ?_
  refine jr_getR rfl rfl rfl rfl (Or.inl rfl) ?_
  refine jr_aload rfl rfl ?_
  refine jr_getI rfl rfl ?_
  refine jr_iload rfl rfl ?_
  refine jr_iast (len := 1701) rfl rfl hn (by omega) ?_
  refine jr_aload rfl rfl ?_
  refine jr_getR rfl rfl rfl rfl (Or.inl rfl) ?_
  refine jr_aload rfl rfl ?_
  refine jr_getI rfl rfl ?_
  refine jr_lload rfl rfl ?_
  refine jr_last (len := 1701) rfl rfl hn (by omega) ?_
  refine jr_aload rfl rfl ?_
  refine jr_dup_r rfl ?_
  refine jr_getI rfl rfl ?_
  refine jr_ic rfl ?_
  refine jr_iadd rfl ?_
  refine jr_putI rfl rfl ?_
  refine jr_vret rfl rfl (Nat.zero_le _) (Nat.zero_le _) ?_
  refine k _ ⟨rfl, rfl, rfl, ?_, fun a b z1 z2 z3 => ?_, fun a b z1 z2 => ?_, rfl⟩
  · refine (jg_II _ _ _ _).trans ?_
    show upd (jh_I h 9 0) 6 (jh_I h 9 0 6 + 1) = _
    rw [hn, jn_S]
  · exact (if_neg (fun z => z1 z.1)).trans ((if_neg (fun z => z3 z.1)).trans (if_neg (fun z => z2 z.1)))
  · exact if_neg (fun z => z2 z.1)

set_option maxHeartbeats 800000 in
set_option maxRecDepth 100000 in
theorem lp_kow {d n0 : Nat} {Q : Option jx_V → jx_H → Prop} {h : jx_H} {w : List Nat} (i : Nat) (hWo : jz_Wo h) (hw : jT_letters w) (hl : w.length ≤ 8) (hi : i ≤ 29) (hno : ∀ j, j < i → jT_ix w ≠ j) (k : Q (some (jv_i (nI (if jT_ix w < 29 then 100 + jT_ix w else 3)))) h)  : jx_W (jm_Tape_kindOfWord, d + 1, 0, 0, false, 0, n0) Q 0 0 2 [some (jv_r 9 0), some (jv_l (jy_key w)), none, some (jv_i (nI i))] [] h := by
  refine jr_iload rfl rfl ?_
  refine jr_aload rfl rfl ?_
  refine jr_getR rfl rfl rfl rfl (Or.inl rfl) ?_
  refine jr_alen (so := 4) (len := 29) rfl rfl rfl rfl ?_
  refine jr_icmp_ge rfl (fun c6 => ?_) (fun c6 => ?_)
  · refine jr_ic rfl ?_
    refine jr_iret rfl rfl (Nat.zero_le _) (Nat.zero_le _) ?_
    have hx1 : 29 ≤ i := jn_le (show nI 29 ≤ nI i from c6) (by omega) (by omega)
    have hi2 : ¬ jT_ix w < 29 := fun z => hno (jT_ix w) (by omega) rfl
    rw [if_neg hi2] at k
    exact k
  · have hl1 : i < 29 := jn_nle (show ¬ nI 29 ≤ nI i from c6) (by omega) (by omega)
    refine jr_aload rfl rfl ?_
    refine jr_getR rfl rfl rfl rfl (Or.inl rfl) ?_
    refine jr_iload rfl rfl ?_
    refine jr_lald (len := 29) rfl rfl rfl (by omega) ?_
    rw [hWo i (by omega)]
    refine jr_lload rfl rfl ?_
    refine jr_lcmp rfl ?_
    refine jr_if_ne rfl (fun c13 => ?_) (fun c13 => ?_)
    · refine jr_iinc3 rfl rfl ?_
      refine jr_goto rfl ?_
      rw [jn_S]
      refine lp_kow (i + 1) hWo hw hl (by omega) (fun j hj => ?_) k
      rcases Nat.lt_succ_iff_lt_or_eq.mp hj with z | z
      · exact hno j z
      · rw [z]
        exact fun y => c13 (lg_cmp1 ((jT_ix_key hw hl (by omega)).mpr y))
    · refine jr_ic rfl ?_
      refine jr_iload rfl rfl ?_
      refine jr_iadd rfl ?_
      refine jr_iret rfl rfl (Nat.zero_le _) (Nat.zero_le _) ?_
      have e := (jT_ix_key hw hl (by omega)).mp (lg_cmp0 c13)
      rw [e, if_pos hl1] at k
      rw [show (100 : Int32) + nI i = nI (100 + i) from jn_add (jn_c 100) rfl]
      exact k
termination_by 29 - i
decreasing_by all_goals omega

set_option maxHeartbeats 800000 in
set_option maxRecDepth 100000 in
theorem ev_kow {d : Nat} {h : jx_H} {Q : Option jx_V → jx_H → Prop} {w : List Nat} (hWo : jz_Wo h) (hw : jT_letters w) (hl : w.length ≤ 8) (k : Q (some (jv_i (nI (if jT_ix w < 29 then 100 + jT_ix w else 3)))) h)  : jx_Ev jm_Tape_kindOfWord (d + 1) 0 0 false 0 [jv_r 9 0, jv_l (jy_key w)] h Q := by
  show jx_W (jm_Tape_kindOfWord, d + 1, 0, 0, false, 0, _) Q 0 0 0 [some (jv_r 9 0), some (jv_l (jy_key w)), none, none] [] _
  refine jr_ic rfl ?_
  refine jr_ist3 rfl rfl ?_
  exact lp_kow 0 hWo hw hl (Nat.zero_le _) (fun j hj => absurd hj (by omega)) k

def jT_fk (k : Int64) (w : List Nat) : Int64 := w.foldl (fun k c => k * 32 + (lN c - 97 + 1)) k
theorem jT_st {c : Nat} (h : 97 ≤ c) (h2 : c < 256) : (nI c - 97 + 1 : Int32).toInt64 = lN c - 97 + 1 := by
  rw [show nI c - 97 + 1 = nI (c - 97 + 1) from jn_add (jn_sub rfl (jn_c 97) h) (jn_c 1), nI_l (by omega)]
  show lN (c - 97 + 1) = lN c - lN 97 + lN 1
  rw [lN_sub h, lN_add]
theorem jT_st10 {c v : Nat} (h : 48 ≤ c) (h2 : c < 256) : lN v * 10 + (nI c - 48 : Int32).toInt64 = lN (v * 10 + (c - 48)) := by
  rw [show nI c - 48 = nI (c - 48) from jn_sub rfl (jn_c 48) h, nI_l (by omega)]
  show lN v * lN 10 + _ = _
  rw [lN_mul, lN_add]
set_option maxHeartbeats 800000 in
set_option maxRecDepth 100000 in
theorem lp_cw {d n0 : Nat} {Q : Option jx_V → jx_H → Prop} {h : jx_H} {sz a : Nat} (i : Nat) (key : Int64) (hS : jh_I h 9 0 5 = nI sz) (hsz : sz ≤ 1700) (hi : i ≤ sz) (k : jx_W (jm_Tape_cutWord, d + 3, 0, 0, false, 0, n0) Q 0 0 21 [some (jv_r 9 0), some (jv_i (nI a)), some (jv_i (nI (jT_run (fun i => jT_l (jT_c (jh_I h 16 0) sz i)) (sz - i) i))), some (jv_l (jT_fk key (jT_w (jT_c (jh_I h 16 0) sz) (jT_run (fun i => jT_l (jT_c (jh_I h 16 0) sz i)) (sz - i) i - i) i))), none] [] h)  : jx_W (jm_Tape_cutWord, d + 3, 0, 0, false, 0, n0) Q 0 0 4 [some (jv_r 9 0), some (jv_i (nI a)), some (jv_i (nI i)), some (jv_l key), none] [] h := by
  refine jr_iload rfl rfl ?_
  refine jr_aload rfl rfl ?_
  refine jr_getI rfl rfl ?_
  rw [hS]
  refine jr_icmp_ge rfl (fun c7 => ?_) (fun c7 => ?_)
  · rw [jT_run_0 (jn_le (show nI sz ≤ nI i from c7) (by omega) (by omega)), Nat.sub_self] at k
    exact k
  · have hi1 : i < sz := jn_nle (show ¬ nI sz ≤ nI i from c7) (by omega) (by omega)
    refine jr_aload rfl rfl ?_
    refine jr_iload rfl rfl ?_
    refine jr_cv1 (mc' := 0) (ms' := 0) rfl jm_Tape_at_n jm_Tape_at_f rfl rfl rfl rfl rfl rfl rfl (Nat.zero_le _) (Nat.zero_le _) ?_
    refine ev_at hS hsz (by omega) ?_
    refine jr_cs1 (mc' := 0) (ms' := 0) rfl jm_Tape_isLetter_n jm_Tape_isLetter_f rfl rfl rfl rfl rfl (Nat.zero_le _) (Nat.zero_le _) ?_
    refine ev_isLetter (jT_c_lt _ _ _) ?_
    refine jr_if_eq rfl (fun c12 => ?_) (fun c12 => ?_)
    · rw [jT_run_s hi1, if_neg (jf_0 c12), Nat.sub_self] at k
      exact k
    · refine jr_lload rfl rfl ?_
      refine jr_aload rfl rfl ?_
      refine jr_iload rfl rfl ?_
      refine jr_cv1 (mc' := 0) (ms' := 0) rfl jm_Tape_at_n jm_Tape_at_f rfl rfl rfl rfl rfl rfl rfl (Nat.zero_le _) (Nat.zero_le _) ?_
      refine ev_at hS hsz (by omega) ?_
      refine jr_cs2 (mc' := 0) (ms' := 0) rfl jm_Tape_keyWith_n jm_Tape_keyWith_f rfl rfl rfl rfl rfl (Nat.zero_le _) (Nat.zero_le _) ?_
      show jx_W (jm_Tape_keyWith, _, _, _, _, _, _) _ 0 0 0 [some _, none, some _] [] _
      refine jr_lload rfl rfl ?_
      refine jr_lc rfl ?_
      refine jr_lmul rfl ?_
      refine jr_iload rfl rfl ?_
      refine jr_ic rfl ?_
      refine jr_isub rfl ?_
      refine jr_ic rfl ?_
      refine jr_iadd rfl ?_
      refine jr_i2l rfl ?_
      have hc := jT_l_iff.mp (jf_1 c12)
      rw [jT_st hc.1 (jT_c_lt _ _ _)]
      refine jr_ladd rfl ?_
      refine jr_lret rfl rfl (Nat.zero_le _) (Nat.zero_le _) ?_
      refine jr_lst3 rfl rfl ?_
      refine jr_iinc2 rfl rfl ?_
      refine jr_goto rfl ?_
      have hp := jf_1 c12
      have hb := (jT_run_b (p := fun i => jT_l (jT_c (jh_I h 16 0) sz i)) (sz - (i + 1)) (i + 1)).1
      rw [jT_run_s hi1, if_pos hp, show jT_run (fun i => jT_l (jT_c (jh_I h 16 0) sz i)) (sz - (i + 1)) (i + 1) - i = (jT_run (fun i => jT_l (jT_c (jh_I h 16 0) sz i)) (sz - (i + 1)) (i + 1) - (i + 1)) + 1 by omega] at k
      rw [jn_S]
      exact lp_cw (i + 1) _ hS hsz (by omega) k
termination_by sz - i
decreasing_by all_goals omega

set_option maxHeartbeats 800000 in
set_option maxRecDepth 100000 in
theorem ev_cutWord {d : Nat} {h : jx_H} {Q : Option jx_V → jx_H → Prop} {sz a n : Nat} (hS : jh_I h 9 0 5 = nI sz) (hsz : sz ≤ 1700) (hWo : jz_Wo h) (hn : jh_I h 9 0 6 = nI n) (hn2 : n ≤ 1700) (ha : a < sz) (hl : jT_l (jT_c (jh_I h 16 0) sz a) = true) (k : ∀ (h' : jx_H) (v : Int64), jT_y h h' n (nI (jT_k (jh_I h 16 0) sz a)) (nI a) v → (jT_k (jh_I h 16 0) sz a = 3 → v = jy_key (jT_wd (jh_I h 16 0) sz a)) → Q (some (jv_i (nI (jT_f (jh_I h 16 0) sz a)))) h')  : jx_Ev jm_Tape_cutWord (d + 3) 0 0 false 0 [jv_r 9 0, jv_i (nI a)] h Q := by
  show jx_W (jm_Tape_cutWord, d + 3, 0, 0, false, 0, _) Q 0 0 0 [some (jv_r 9 0), some (jv_i (nI a)), none, none, none] [] _
  have hf : jT_f (jh_I h 16 0) sz a = jT_run (fun i => jT_l (jT_c (jh_I h 16 0) sz i)) (sz - a) a := by
    unfold jT_f
    rw [if_neg (by omega), if_pos hl]
  have hfb := jT_f_b (B := (jh_I h 16 0)) ha
  have hwl := jT_wd_l (B := (jh_I h 16 0)) ha hl
  have hk : jT_k (jh_I h 16 0) sz a = if 8 < jT_f (jh_I h 16 0) sz a - a then 1 else if jT_ix (jT_wd (jh_I h 16 0) sz a) < 29 then 100 + jT_ix (jT_wd (jh_I h 16 0) sz a) else 3 := by
    unfold jT_k
    rw [if_neg (by omega), if_pos hl]
  refine jr_iload rfl rfl ?_
  refine jr_ist2 rfl rfl ?_
  refine jr_lc rfl ?_
  refine jr_lst3 rfl rfl ?_
  refine lp_cw a 0 hS hsz (by omega) ?_
  rw [← hf, show jT_fk 0 (jT_w (jT_c (jh_I h 16 0) sz) (jT_f (jh_I h 16 0) sz a - a) a) = jy_key (jT_wd (jh_I h 16 0) sz a) from rfl]
  refine jr_aload rfl rfl ?_
  refine jr_iload rfl rfl ?_
  refine jr_iload rfl rfl ?_
  refine jr_isub rfl ?_
  refine jr_ic rfl ?_
  rw [show nI (jT_f (jh_I h 16 0) sz a) - nI a = nI (jT_f (jh_I h 16 0) sz a - a) from jn_sub rfl rfl (by omega)]
  refine jr_icmp_le rfl (fun c26 => ?_) (fun c26 => ?_)
  · refine jr_aload rfl rfl ?_
    refine jr_lload rfl rfl ?_
    refine jr_cv1 (mc' := 0) (ms' := 0) rfl jm_Tape_kindOfWord_n jm_Tape_kindOfWord_f rfl rfl rfl rfl rfl rfl rfl (Nat.zero_le _) (Nat.zero_le _) ?_
    have h8 := jn_le (show nI (jT_f (jh_I h 16 0) sz a - a) ≤ nI 8 from c26) (by omega) (by decide)
    refine ev_kow hWo hwl.1 (by omega) ?_
    refine jr_iload rfl rfl ?_
    refine jr_lload rfl rfl ?_
    refine jr_cv3 (mc' := 0) (ms' := 0) rfl jm_Tape_lay_n jm_Tape_lay_f rfl rfl rfl rfl rfl rfl rfl (Nat.zero_le _) (Nat.zero_le _) ?_
    refine ev_lay hn hn2 (fun h1 y1 => ?_)
    refine jr_iload rfl rfl ?_
    refine jr_iret rfl rfl (Nat.zero_le _) (Nat.zero_le _) ?_
    rw [if_neg (by omega)] at hk
    exact k h1 _ (by rw [hk]; exact y1) (fun _ => rfl)
  · refine jr_ic rfl ?_
    refine jr_goto rfl ?_
    refine jr_iload rfl rfl ?_
    refine jr_lload rfl rfl ?_
    refine jr_cv3 (mc' := 0) (ms' := 0) rfl jm_Tape_lay_n jm_Tape_lay_f rfl rfl rfl rfl rfl rfl rfl (Nat.zero_le _) (Nat.zero_le _) ?_
    refine ev_lay hn hn2 (fun h1 y1 => ?_)
    refine jr_iload rfl rfl ?_
    refine jr_iret rfl rfl (Nat.zero_le _) (Nat.zero_le _) ?_
    have h8 : 8 < jT_f (jh_I h 16 0) sz a - a := jn_nle (show ¬ nI (jT_f (jh_I h 16 0) sz a - a) ≤ nI 8 from c26) (by omega) (by decide)
    rw [if_pos h8] at hk
    exact k h1 _ (by rw [hk]; exact y1) (fun z => absurd (hk.symm.trans z) (by decide))

set_option maxHeartbeats 800000 in
set_option maxRecDepth 100000 in
theorem lp_cn {d n0 : Nat} {Q : Option jx_V → jx_H → Prop} {h : jx_H} {sz a : Nat} (i : Nat) (v : Nat) (hS : jh_I h 9 0 5 = nI sz) (hsz : sz ≤ 1700) (hi : i ≤ sz) (k : jx_W (jm_Tape_cutNumber, d + 3, 0, 0, false, 0, n0) Q 0 0 26 [some (jv_r 9 0), some (jv_i (nI a)), some (jv_i (nI (jT_run (fun i => jT_d (jT_c (jh_I h 16 0) sz i)) (sz - i) i))), some (jv_l (lN (jT_n (jT_c (jh_I h 16 0) sz) (jT_run (fun i => jT_d (jT_c (jh_I h 16 0) sz i)) (sz - i) i - i) i v))), none, none] [] h)  : jx_W (jm_Tape_cutNumber, d + 3, 0, 0, false, 0, n0) Q 0 0 4 [some (jv_r 9 0), some (jv_i (nI a)), some (jv_i (nI i)), some (jv_l (lN v)), none, none] [] h := by
  refine jr_iload rfl rfl ?_
  refine jr_aload rfl rfl ?_
  refine jr_getI rfl rfl ?_
  rw [hS]
  refine jr_icmp_ge rfl (fun c7 => ?_) (fun c7 => ?_)
  · rw [jT_run_0 (jn_le (show nI sz ≤ nI i from c7) (by omega) (by omega)), Nat.sub_self] at k
    exact k
  · have hi1 : i < sz := jn_nle (show ¬ nI sz ≤ nI i from c7) (by omega) (by omega)
    refine jr_aload rfl rfl ?_
    refine jr_iload rfl rfl ?_
    refine jr_cv1 (mc' := 0) (ms' := 0) rfl jm_Tape_at_n jm_Tape_at_f rfl rfl rfl rfl rfl rfl rfl (Nat.zero_le _) (Nat.zero_le _) ?_
    refine ev_at hS hsz (by omega) ?_
    refine jr_cs1 (mc' := 0) (ms' := 0) rfl jm_Tape_isDigit_n jm_Tape_isDigit_f rfl rfl rfl rfl rfl (Nat.zero_le _) (Nat.zero_le _) ?_
    refine ev_isDigit (jT_c_lt _ _ _) ?_
    refine jr_if_eq rfl (fun c12 => ?_) (fun c12 => ?_)
    · rw [jT_run_s hi1, if_neg (jf_0 c12), Nat.sub_self] at k
      exact k
    · refine jr_lload rfl rfl ?_
      refine jr_lc rfl ?_
      refine jr_lmul rfl ?_
      refine jr_aload rfl rfl ?_
      refine jr_iload rfl rfl ?_
      refine jr_cv1 (mc' := 0) (ms' := 0) rfl jm_Tape_at_n jm_Tape_at_f rfl rfl rfl rfl rfl rfl rfl (Nat.zero_le _) (Nat.zero_le _) ?_
      refine ev_at hS hsz (by omega) ?_
      refine jr_ic rfl ?_
      refine jr_isub rfl ?_
      refine jr_i2l rfl ?_
      refine jr_ladd rfl ?_
      have hc := jT_d_iff.mp (jf_1 c12)
      rw [jT_st10 hc.1 (jT_c_lt _ _ _)]
      refine jr_lst3 rfl rfl ?_
      refine jr_iinc2 rfl rfl ?_
      refine jr_goto rfl ?_
      have hp := jf_1 c12
      have hb := (jT_run_b (p := fun i => jT_d (jT_c (jh_I h 16 0) sz i)) (sz - (i + 1)) (i + 1)).1
      rw [jT_run_s hi1, if_pos hp, show jT_run (fun i => jT_d (jT_c (jh_I h 16 0) sz i)) (sz - (i + 1)) (i + 1) - i = (jT_run (fun i => jT_d (jT_c (jh_I h 16 0) sz i)) (sz - (i + 1)) (i + 1) - (i + 1)) + 1 by omega] at k
      rw [jn_S]
      exact lp_cn (i + 1) _ hS hsz (by omega) k
termination_by sz - i
decreasing_by all_goals omega

set_option maxHeartbeats 800000 in
set_option maxRecDepth 100000 in
theorem ev_cutNumber {d : Nat} {h : jx_H} {Q : Option jx_V → jx_H → Prop} {sz a n : Nat} (hS : jh_I h 9 0 5 = nI sz) (hsz : sz ≤ 1700) (hn : jh_I h 9 0 6 = nI n) (hn2 : n ≤ 1700) (ha : a < sz) (hnl0 : ¬ jT_l (jT_c (jh_I h 16 0) sz a) = true) (hl : jT_d (jT_c (jh_I h 16 0) sz a) = true) (k : ∀ (h' : jx_H) (v : Int64), jT_y h h' n (nI (jT_k (jh_I h 16 0) sz a)) (nI a) v → (jT_k (jh_I h 16 0) sz a = 2 → v = lN (jT_v (jh_I h 16 0) sz a)) → Q (some (jv_i (nI (jT_f (jh_I h 16 0) sz a)))) h')  : jx_Ev jm_Tape_cutNumber (d + 3) 0 0 false 0 [jv_r 9 0, jv_i (nI a)] h Q := by
  show jx_W (jm_Tape_cutNumber, d + 3, 0, 0, false, 0, _) Q 0 0 0 [some (jv_r 9 0), some (jv_i (nI a)), none, none, none, none] [] _
  have hf : jT_f (jh_I h 16 0) sz a = jT_run (fun i => jT_d (jT_c (jh_I h 16 0) sz i)) (sz - a) a := by
    unfold jT_f
    rw [if_neg (by omega), if_neg hnl0, if_pos hl]
  have hfb := jT_f_b (B := (jh_I h 16 0)) ha
  have hk : jT_k (jh_I h 16 0) sz a = if 4 < jT_f (jh_I h 16 0) sz a - a ∨ jT_l ((jT_c (jh_I h 16 0) sz (jT_f (jh_I h 16 0) sz a))) = true then 1 else 2 := by
    unfold jT_k
    rw [if_neg (by omega), if_neg hnl0, if_pos hl]
  refine jr_iload rfl rfl ?_
  refine jr_ist2 rfl rfl ?_
  refine jr_lc rfl ?_
  refine jr_lst3 rfl rfl ?_
  rw [show (0 : Int64) = lN 0 from rfl]
  refine lp_cn a 0 hS hsz (by omega) ?_
  rw [← hf, show lN (jT_n (jT_c (jh_I h 16 0) sz) (jT_f (jh_I h 16 0) sz a - a) a 0) = lN (jT_v (jh_I h 16 0) sz a) from rfl]
  refine jr_iload rfl rfl ?_
  refine jr_aload rfl rfl ?_
  refine jr_getI rfl rfl ?_
  rw [hS]
  refine jr_icmp_ge rfl (fun c29 => ?_) (fun c29 => ?_)
  · refine jr_ic rfl ?_
    refine jr_ist5 rfl rfl ?_
    refine jr_aload rfl rfl ?_
    refine jr_iload rfl rfl ?_
    refine jr_if_ne rfl (fun z => absurd (by decide) z) (fun _ => ?_)
    refine jr_iload rfl rfl ?_
    refine jr_iload rfl rfl ?_
    refine jr_isub rfl ?_
    refine jr_ic rfl ?_
    rw [show nI (jT_f (jh_I h 16 0) sz a) - nI a = nI (jT_f (jh_I h 16 0) sz a - a) from jn_sub rfl rfl (by omega)]
    refine jr_icmp_le rfl (fun c46 => ?_) (fun c46 => ?_)
    · refine jr_ic rfl ?_
      refine jr_iload rfl rfl ?_
      refine jr_lload rfl rfl ?_
      refine jr_cv3 (mc' := 0) (ms' := 0) rfl jm_Tape_lay_n jm_Tape_lay_f rfl rfl rfl rfl rfl rfl rfl (Nat.zero_le _) (Nat.zero_le _) ?_
      refine ev_lay hn hn2 (fun h1 y1 => ?_)
      refine jr_iload rfl rfl ?_
      refine jr_iret rfl rfl (Nat.zero_le _) (Nat.zero_le _) ?_
      have hnl : ¬ jT_l (jT_c (jh_I h 16 0) sz (jT_f (jh_I h 16 0) sz a)) = true := by rw [jT_c_0 (jn_le (show nI sz ≤ nI (jT_f (jh_I h 16 0) sz a) from c29) (by omega) (by omega))]; decide
      have h4 := jn_le (show nI (jT_f (jh_I h 16 0) sz a - a) ≤ nI 4 from c46) (by omega) (by decide)
      rw [if_neg (fun z => z.elim (fun y => by omega) hnl)] at hk
      exact k h1 _ (by rw [hk]; exact y1) (fun _ => rfl)
    · refine jr_ic rfl ?_
      refine jr_goto rfl ?_
      refine jr_iload rfl rfl ?_
      refine jr_lload rfl rfl ?_
      refine jr_cv3 (mc' := 0) (ms' := 0) rfl jm_Tape_lay_n jm_Tape_lay_f rfl rfl rfl rfl rfl rfl rfl (Nat.zero_le _) (Nat.zero_le _) ?_
      refine ev_lay hn hn2 (fun h1 y1 => ?_)
      refine jr_iload rfl rfl ?_
      refine jr_iret rfl rfl (Nat.zero_le _) (Nat.zero_le _) ?_
      have hnl : ¬ jT_l (jT_c (jh_I h 16 0) sz (jT_f (jh_I h 16 0) sz a)) = true := by rw [jT_c_0 (jn_le (show nI sz ≤ nI (jT_f (jh_I h 16 0) sz a) from c29) (by omega) (by omega))]; decide
      have h4 : 4 < jT_f (jh_I h 16 0) sz a - a := jn_nle (show ¬ nI (jT_f (jh_I h 16 0) sz a - a) ≤ nI 4 from c46) (by omega) (by decide)
      rw [if_pos (Or.inl h4)] at hk
      exact k h1 _ (by rw [hk]; exact y1) (fun z => absurd (hk.symm.trans z) (by decide))
  · refine jr_aload rfl rfl ?_
    refine jr_iload rfl rfl ?_
    refine jr_cv1 (mc' := 0) (ms' := 0) rfl jm_Tape_at_n jm_Tape_at_f rfl rfl rfl rfl rfl rfl rfl (Nat.zero_le _) (Nat.zero_le _) ?_
    refine ev_at hS hsz (by omega) ?_
    refine jr_cs1 (mc' := 0) (ms' := 0) rfl jm_Tape_isLetter_n jm_Tape_isLetter_f rfl rfl rfl rfl rfl (Nat.zero_le _) (Nat.zero_le _) ?_
    refine ev_isLetter (jT_c_lt _ _ _) ?_
    refine jr_if_eq rfl (fun c34 => ?_) (fun c34 => ?_)
    · refine jr_ic rfl ?_
      refine jr_ist5 rfl rfl ?_
      refine jr_aload rfl rfl ?_
      refine jr_iload rfl rfl ?_
      refine jr_if_ne rfl (fun z => absurd (by decide) z) (fun _ => ?_)
      refine jr_iload rfl rfl ?_
      refine jr_iload rfl rfl ?_
      refine jr_isub rfl ?_
      refine jr_ic rfl ?_
      rw [show nI (jT_f (jh_I h 16 0) sz a) - nI a = nI (jT_f (jh_I h 16 0) sz a - a) from jn_sub rfl rfl (by omega)]
      refine jr_icmp_le rfl (fun c46 => ?_) (fun c46 => ?_)
      · refine jr_ic rfl ?_
        refine jr_iload rfl rfl ?_
        refine jr_lload rfl rfl ?_
        refine jr_cv3 (mc' := 0) (ms' := 0) rfl jm_Tape_lay_n jm_Tape_lay_f rfl rfl rfl rfl rfl rfl rfl (Nat.zero_le _) (Nat.zero_le _) ?_
        refine ev_lay hn hn2 (fun h1 y1 => ?_)
        refine jr_iload rfl rfl ?_
        refine jr_iret rfl rfl (Nat.zero_le _) (Nat.zero_le _) ?_
        have hnl : ¬ jT_l (jT_c (jh_I h 16 0) sz (jT_f (jh_I h 16 0) sz a)) = true := jf_0 c34
        have h4 := jn_le (show nI (jT_f (jh_I h 16 0) sz a - a) ≤ nI 4 from c46) (by omega) (by decide)
        rw [if_neg (fun z => z.elim (fun y => by omega) hnl)] at hk
        exact k h1 _ (by rw [hk]; exact y1) (fun _ => rfl)
      · refine jr_ic rfl ?_
        refine jr_goto rfl ?_
        refine jr_iload rfl rfl ?_
        refine jr_lload rfl rfl ?_
        refine jr_cv3 (mc' := 0) (ms' := 0) rfl jm_Tape_lay_n jm_Tape_lay_f rfl rfl rfl rfl rfl rfl rfl (Nat.zero_le _) (Nat.zero_le _) ?_
        refine ev_lay hn hn2 (fun h1 y1 => ?_)
        refine jr_iload rfl rfl ?_
        refine jr_iret rfl rfl (Nat.zero_le _) (Nat.zero_le _) ?_
        have hnl : ¬ jT_l (jT_c (jh_I h 16 0) sz (jT_f (jh_I h 16 0) sz a)) = true := jf_0 c34
        have h4 : 4 < jT_f (jh_I h 16 0) sz a - a := jn_nle (show ¬ nI (jT_f (jh_I h 16 0) sz a - a) ≤ nI 4 from c46) (by omega) (by decide)
        rw [if_pos (Or.inl h4)] at hk
        exact k h1 _ (by rw [hk]; exact y1) (fun z => absurd (hk.symm.trans z) (by decide))
    · refine jr_ic rfl ?_
      refine jr_goto rfl ?_
      refine jr_ist5 rfl rfl ?_
      refine jr_aload rfl rfl ?_
      refine jr_iload rfl rfl ?_
      refine jr_if_ne rfl (fun _ => ?_) (fun z => absurd z (by decide))
      refine jr_ic rfl ?_
      refine jr_goto rfl ?_
      refine jr_iload rfl rfl ?_
      refine jr_lload rfl rfl ?_
      refine jr_cv3 (mc' := 0) (ms' := 0) rfl jm_Tape_lay_n jm_Tape_lay_f rfl rfl rfl rfl rfl rfl rfl (Nat.zero_le _) (Nat.zero_le _) ?_
      refine ev_lay hn hn2 (fun h1 y1 => ?_)
      refine jr_iload rfl rfl ?_
      refine jr_iret rfl rfl (Nat.zero_le _) (Nat.zero_le _) ?_
      rw [if_pos (Or.inr (jf_1 c34))] at hk
      exact k h1 _ (by rw [hk]; exact y1) (fun z => absurd (hk.symm.trans z) (by decide))

