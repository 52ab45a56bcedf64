def jBd (B : Nat → Int32) (sz t u v c : Nat) : Prop := u ≤ 90 ∧ v ≤ 30 ∧ 4 * c ≤ 8 * u + jT_p B sz t ∧ sz ≤ 1700
theorem jBd_c {B : Nat → Int32} {sz t u v c : Nat} (h : jBd B sz t u v c) : c ≤ 605 := by
  obtain ⟨h1, h2, h3, h4⟩ := h
  have := @jT_p_le B sz t
  omega
def jUN (B : Nat → Int32) (sz T β ρ n : Nat) : Prop := ∀ (d : Nat) (h : jx_H) (t u v c i : Nat) (Q : Option jx_V → jx_H → Prop), jZ h B sz T ρ t u v c → i + n = 7 → jBd B sz t u v c → (∀ r h', jO B sz T β ρ i 5 7 7 t u v c h r h' → Q r h') → jx_Ev jm_Rdr_readUnit (d + 10 * n + 6) 0 0 false 0 [jv_r 6 0, jv_i (nI i)] h Q
def jCH (B : Nat → Int32) (sz T β ρ n lv θ μ off : Nat) : Prop := ∀ (d : Nat) (h : jx_H) (t u v c i : Nat) (Q : Option jx_V → jx_H → Prop), jZ h B sz T ρ t u v c → i + n = 7 → jBd B sz t u v c → (∀ r h', jO B sz T β ρ i lv θ μ t u v c h r h' → Q r h') → jx_Ev jm_Rdr_readChain (d + 10 * n + off) 0 0 false 0 [jv_r 6 0, jv_i (nI lv), jv_i (nI i)] h Q
def jU (h : jx_H) (ρ : Nat) : jx_H := ju_I (ju_I h 7 ρ (upd (jh_I h 7 ρ) 12 (jh_I h 7 ρ 12 + 1))) 6 0 (upd (jh_I h 6 0) 6 (jh_I h 6 0 6 + 1))
theorem jU_7 (h : jx_H) (ρ : Nat) : jh_I (jU h ρ) 7 ρ = upd (jh_I h 7 ρ) 12 (jh_I h 7 ρ 12 + 1) := by
  unfold jU
  exact jg_II h 7 ρ _
theorem jZ_U {h : jx_H} {B : Nat → Int32} {sz T ρ t u v c : Nat} (z : jZ h B sz T ρ t u v c) : jZ (jU h ρ) B sz T ρ t (u + 1) (v + 1) c := by
  obtain ⟨z1, z2, z3, z4, z5, z6, z7, z8⟩ := z
  refine ⟨z1, z2, z3, z4, ?_, ?_, ?_, ?_⟩
  · rw [jU_7, jg_us, z5, jn_S]
  · show upd (jh_I h 6 0) 6 (jh_I h 6 0 6 + 1) 6 = _
    rw [jg_us, z6, jn_S]
  · rw [jU_7, jg_un (by decide)]; exact z7
  · rw [jU_7, jg_un (by decide)]; exact z8
theorem jZ_F_U (h : jx_H) (ρ c : Nat) : jZ_F ρ c h (jU h ρ) := ⟨fun a b _ z2 z3 _ => (if_neg (fun y => z2 y.1)).trans (if_neg z3), fun _ _ _ => rfl, rfl, fun _ _ => rfl, fun f hf => jg_un (by omega), fun f h1 _ _ => by rw [jU_7, jg_un h1], fun _ _ => rfl⟩
theorem jt_trs {k : Nat} (h : 0 < jT_rk k) : jt_tr (-(nI k)) (jT_sgn k) 0 ∧ jT_sgn k ≠ 126 ∧ ¬ (97 ≤ jT_sgn k ∧ jT_sgn k ≤ 122) := by
  unfold jT_rk at h
  have hk : k = 119 ∨ k = 127 ∨ k = 60 ∨ k = 62 ∨ k = 61 ∨ k = 43 ∨ k = 45 ∨ k = 42 ∨ k = 47 ∨ k = 37 := by
    repeat' split at h
    all_goals omega
  rcases hk with z | z | z | z | z | z | z | z | z | z <;> (subst z; unfold jt_tr jt_wd; decide)
theorem jt_trw {k : Nat} (h1 : 100 ≤ k) (h2 : k ≤ 106) : jt_tr (-(nI k)) (nI (jT_wh k)) 0 := by
  have hk : k = 100 ∨ k = 101 ∨ k = 102 ∨ k = 103 ∨ k = 104 ∨ k = 105 ∨ k = 106 := by omega
  rcases hk with z | z | z | z | z | z | z <;> (subst z; unfold jt_tr jt_wd; decide)
theorem jT_rk_lo {k : Nat} (h : jT_rk k ≠ 0) : k ≠ 0 := by
  intro z
  rw [z] at h
  exact h (by decide)
theorem jT_f_gt {B : Nat → Int32} {sz t : Nat} (h : jT_K B sz t ≠ 0) : jT_p B sz t + 1 ≤ jT_p B sz (t + 1) := by
  have h1 := @jT_p_le B sz t
  have h2 : jT_p B sz t < sz := by
    rcases Nat.lt_or_ge (jT_p B sz t) sz with e | e
    · exact e
    · exact absurd (if_pos e) h
  have h3 := jT_f_b (B := B) h2
  have h4 := (jT_a_b (B := B) (jT_E_le (B := B) (sz := sz) (t + 1))).1
  have h5 : jT_E B sz (t + 1) = jT_f B sz (jT_p B sz t) := rfl
  show _ ≤ jT_a B sz (jT_E B sz (t + 1))
  omega
/-- behind not stands no letter -/
theorem jT_not {B : Nat → Int32} {sz t : Nat} (h : jT_K B sz t = 128) : jT_p B sz t + 3 ≤ jT_p B sz (t + 1) ∧ (jT_K B sz (t + 1) = 128 → jT_p B sz t + 4 ≤ jT_p B sz (t + 1)) := by
  obtain ⟨w1, w2, w3, w4, w5⟩ := jT_k_word (B := B) (sz := sz) (a := jT_p B sz t) (by rw [show jT_k B sz (jT_p B sz t) = 128 from h]; decide)
  have hix : jT_ix (jT_wd B sz (jT_p B sz t)) = 28 := by
    have : jT_k B sz (jT_p B sz t) = 128 := h
    omega
  have hw := (jT_ix_eq (by decide)).mp hix
  have hl := (jT_wd_l (B := B) w1 w2).2
  rw [hw] at hl
  have hl3 : jT_f B sz (jT_p B sz t) - jT_p B sz t = 3 := hl.symm
  have h4 := (jT_a_b (B := B) (jT_E_le (B := B) (sz := sz) (t + 1))).1
  have h5 : jT_E B sz (t + 1) = jT_f B sz (jT_p B sz t) := rfl
  have h6 : jT_p B sz (t + 1) = jT_a B sz (jT_E B sz (t + 1)) := rfl
  refine ⟨by omega, fun hn => ?_⟩
  rcases Nat.lt_or_ge (jT_p B sz t + 3) (jT_p B sz (t + 1)) with e | e
  · omega
  · obtain ⟨v1, v2, -, -, -⟩ := jT_k_word (B := B) (sz := sz) (a := jT_p B sz (t + 1)) (by rw [show jT_k B sz (jT_p B sz (t + 1)) = 128 from hn]; decide)
    have h7 : jT_p B sz (t + 1) = jT_f B sz (jT_p B sz t) := by omega
    rw [h7] at v1 v2
    have hf : jT_f B sz (jT_p B sz t) = jT_run (fun i => jT_l (jT_c B sz i)) (sz - jT_p B sz t) (jT_p B sz t) := by
      unfold jT_f
      rw [if_neg (by omega), if_pos w2]
    have := jT_run_stop (p := fun i => jT_l (jT_c B sz i)) (sz - jT_p B sz t) (jT_p B sz t) (by rw [← hf]; omega)
    rw [← hf] at this
    rw [this] at v2
    exact absurd v2 (by decide)
theorem jT_n_lt {c : Nat → Nat} (hc : ∀ i, c i < 256) : ∀ n i v, jT_n c n i v < (v + 1) * 256 ^ n
  | 0, i, v => by rw [jT_n]; omega
  | n + 1, i, v => by
    rw [jT_n, Nat.pow_succ]
    have h1 := jT_n_lt hc n (i + 1) (v * 10 + (c i - 48))
    have h2 := hc i
    have h3 : v * 10 + (c i - 48) + 1 ≤ (v + 1) * 256 := by omega
    have h4 := Nat.mul_le_mul_right (256 ^ n) h3
    rw [Nat.mul_assoc, Nat.mul_comm 256] at h4
    omega
theorem jT_v_lt {B : Nat → Int32} {sz t : Nat} (h : jT_K B sz t = 2) : jT_v B sz (jT_p B sz t) < 100000 := by
  have hk : jT_k B sz (jT_p B sz t) = 2 := h
  unfold jT_k at hk
  by_cases e1 : sz ≤ jT_p B sz t
  · rw [if_pos e1] at hk; omega
  · rw [if_neg e1] at hk
    by_cases e2 : jT_l (jT_c B sz (jT_p B sz t)) = true
    · rw [if_pos e2] at hk
      repeat' split at hk
      all_goals omega
    · rw [if_neg e2] at hk
      by_cases e3 : jT_d (jT_c B sz (jT_p B sz t)) = true
      · rw [if_pos e3] at hk
        by_cases e4 : 4 < jT_f B sz (jT_p B sz t) - jT_p B sz t ∨ jT_l (jT_c B sz (jT_f B sz (jT_p B sz t))) = true
        · rw [if_pos e4] at hk; omega
        · have e5 : jT_f B sz (jT_p B sz t) - jT_p B sz t ≤ 4 := by omega
          have hd : ∀ j, jT_p B sz t ≤ j → j < jT_f B sz (jT_p B sz t) → jT_d (jT_c B sz j) = true := by
            have hf : jT_f B sz (jT_p B sz t) = jT_run (fun i => jT_d (jT_c B sz i)) (sz - jT_p B sz t) (jT_p B sz t) := by
              unfold jT_f
              rw [if_neg e1, if_neg e2, if_pos e3]
            intro j h1 h2
            exact jT_run_in (p := fun i => jT_d (jT_c B sz i)) (sz - jT_p B sz t) (jT_p B sz t) j h1 (by rw [← hf]; exact h2)
          have key : ∀ n i v, n ≤ 4 → (∀ j, i ≤ j → j < i + n → jT_d (jT_c B sz j) = true) → jT_n (jT_c B sz) n i v < (v + 1) * 10 ^ n := by
            intro n
            induction n with
            | zero => intro i v _ _; rw [jT_n]; omega
            | succ n ih =>
              intro i v h4 hj
              have h1 := ih (i + 1) (v * 10 + (jT_c B sz i - 48)) (by omega) (fun j q1 q2 => hj j (by omega) (by omega))
              have h2 := jT_d_iff.mp (hj i (Nat.le_refl _) (by omega))
              rw [jT_n, Nat.pow_succ]
              have h3 : v * 10 + (jT_c B sz i - 48) + 1 ≤ (v + 1) * 10 := by omega
              have h5 := Nat.mul_le_mul_right (10 ^ n) h3
              rw [Nat.mul_assoc, Nat.mul_comm 10] at h5
              omega
          have h7 := key (jT_f B sz (jT_p B sz t) - jT_p B sz t) (jT_p B sz t) 0 e5 (fun j q1 q2 => hd j q1 (by omega))
          have h8 : 10 ^ (jT_f B sz (jT_p B sz t) - jT_p B sz t) ≤ 10 ^ 4 := Nat.pow_le_pow_right (by decide) e5
          have h9 : (10 : Nat) ^ 4 = 10000 := by decide
          show jT_n (jT_c B sz) (jT_f B sz (jT_p B sz t) - jT_p B sz t) (jT_p B sz t) 0 < 100000
          omega
      · rw [if_neg e3] at hk
        by_cases e4 : jT_sg (jT_c B sz (jT_p B sz t)) = true
        · rw [if_pos e4] at hk
          have := jT_sg_r e4
          omega
        · rw [if_neg e4] at hk; omega
set_option maxHeartbeats 800000 in
set_option maxRecDepth 100000 in
theorem lp_uw {d n0 : Nat} {Q : Option jx_V → jx_H → Prop} {h : jx_H} {B : Nat → Int32} {sz T β ρ n t u v c i : Nat} {x3 : Int32} (z : jZ h B sz T ρ t u v c) (hin : i + n = 7) (hbd : jBd B sz t u v c) (hK : 100 ≤ jT_K B sz t) (hK2 : jT_K B sz t ≤ 106) (hu : u < 90) (hv : v < 30) (k : ∀ r h', jO B sz T β ρ i 5 7 7 t u v c h r h' → Q r h')  : jx_W (jm_Rdr_readUnit, d + 10 * n + 6, 0, 0, false, 0, n0) Q 0 0 57 [some (jv_r 6 0), some (jv_i (nI i)), some (jv_i 1), some (jv_i x3)] [] h := by
  obtain ⟨z1, z2, z3, z4, z5, z6, z7, z8⟩ := id z
  have hM := z4
  have hk : jh_I h 9 0 8 = nI (jT_K B sz t) := z2.2.1
  obtain ⟨b1, b2, b3, b4⟩ := id hbd
  have hc := jBd_c hbd
  have hkl : jT_K B sz t < 256 := jT_k_lt
  refine jr_aload rfl rfl ?_
  refine jr_getM rfl rfl rfl rfl hM ?_
  refine jr_dup_r rfl ?_
  refine jr_getI rfl rfl ?_
  refine jr_ic rfl ?_
  refine jr_iadd rfl ?_
  refine jr_putI rfl rfl ?_
  refine jr_aload rfl rfl ?_
  refine jr_dup_r rfl ?_
  refine jr_getI rfl rfl ?_
  refine jr_ic rfl ?_
  refine jr_iadd rfl ?_
  refine jr_putI rfl rfl ?_
  show jx_W _ _ _ _ _ _ _ (jU h ρ)
  refine jr_aload rfl rfl ?_
  refine jr_getR rfl rfl rfl rfl (Or.inl rfl) ?_
  refine jr_getI rfl rfl ?_
  refine jr_ic rfl ?_
  refine jr_icmp_ne rfl (fun _ => ?_) (fun z => absurd z (fun y => by have := jn_eq (hk.symm.trans (show jh_I h 9 0 8 = nI 40 from y)) (by omega) (by decide); omega))
  refine jr_aload rfl rfl ?_
  refine jr_getM rfl rfl rfl rfl hM ?_
  refine jr_iload rfl rfl ?_
  refine jr_if_eq rfl (fun z => absurd z (by decide)) (fun _ => ?_)
  refine jr_aload rfl rfl ?_
  refine jr_getR rfl rfl rfl rfl (Or.inl rfl) ?_
  refine jr_getI rfl rfl ?_
  rw [show jh_I (jU h ρ) 9 0 8 = nI (jT_K B sz t) from hk]
  refine jr_ineg rfl ?_
  refine jr_goto rfl ?_
  refine jr_cv1 (mc' := 0) (ms' := 0) rfl jm_Rep_emit_n jm_Rep_emit_f rfl rfl rfl rfl rfl rfl rfl (Nat.zero_le _) (Nat.zero_le _) ?_
  have zu := jZ_U z
  refine ev_emit (c := c) zu.2.2.2.2.2.2.1 (by omega) (jZ_asks zu) (fun h2 e2 => ?_)
  have z22 := jZ_emit zu e2
  refine jr_aload rfl rfl ?_
  refine jr_getR rfl rfl rfl rfl (Or.inl rfl) ?_
  refine jr_cv0 (mc' := 0) (ms' := 0) rfl jm_Tape_take_n jm_Tape_take_f rfl rfl rfl rfl rfl rfl rfl (Nat.zero_le _) (Nat.zero_le _) ?_
  refine ev_take (B := B) (sz := sz) z22.1 z22.2.1.1 (jT_next z1 z3 (by omega)) (fun h3 g3 c3 => ?_)
  refine jr_ic rfl ?_
  refine jr_zret rfl rfl rfl (Nat.zero_le _) (Nat.zero_le _) ?_
  have hg := jT_f_gt (B := B) (sz := sz) (t := t) (by omega)
  refine k _ _ (Or.inl ⟨rfl, 1, t + 1, c + 1, jZ_take z22 g3 c3 (jT_next z1 z3 (by omega)), jZ_F_t (Nat.le_refl c) (jZ_F_U h ρ c) (jZ_F_t (Nat.le_refl c) (jZ_F_E e2) (jZ_F_G g3)), by omega, Nat.le_refl _, by omega, by omega, ?_, Or.inl (jT_rk_lt _), ?_⟩)
  · rw [if_neg (by omega)]; omega
  · refine jTR_w hK hK2 hu hv (by omega) ?_
    rw [g3.1 25 ρ (by decide), e2.2.2.1, jg_us]
    exact jt_trw hK hK2

set_option maxHeartbeats 800000 in
set_option maxRecDepth 100000 in
theorem lp_un {d n0 : Nat} {Q : Option jx_V → jx_H → Prop} {h : jx_H} {B : Nat → Int32} {sz T β ρ n t u v c i : Nat} {x3 : Int32} (z : jZ h B sz T ρ t u v c) (hin : i + n = 7) (hbd : jBd B sz t u v c) (hK : jT_K B sz t = 2) (hu : u < 90) (hv : v < 30) (k : ∀ r h', jO B sz T β ρ i 5 7 7 t u v c h r h' → Q r h')  : jx_W (jm_Rdr_readUnit, d + 10 * n + 6, 0, 0, false, 0, n0) Q 0 0 57 [some (jv_r 6 0), some (jv_i (nI i)), some (jv_i 0), some (jv_i x3)] [] h := by
  obtain ⟨z1, z2, z3, z4, z5, z6, z7, z8⟩ := id z
  have hM := z4
  have hk : jh_I h 9 0 8 = nI (jT_K B sz t) := z2.2.1
  obtain ⟨b1, b2, b3, b4⟩ := id hbd
  have hc := jBd_c hbd
  have hkl : jT_K B sz t < 256 := jT_k_lt
  refine jr_aload rfl rfl ?_
  refine jr_getM rfl rfl rfl rfl hM ?_
  refine jr_dup_r rfl ?_
  refine jr_getI rfl rfl ?_
  refine jr_ic rfl ?_
  refine jr_iadd rfl ?_
  refine jr_putI rfl rfl ?_
  refine jr_aload rfl rfl ?_
  refine jr_dup_r rfl ?_
  refine jr_getI rfl rfl ?_
  refine jr_ic rfl ?_
  refine jr_iadd rfl ?_
  refine jr_putI rfl rfl ?_
  show jx_W _ _ _ _ _ _ _ (jU h ρ)
  refine jr_aload rfl rfl ?_
  refine jr_getR rfl rfl rfl rfl (Or.inl rfl) ?_
  refine jr_getI rfl rfl ?_
  refine jr_ic rfl ?_
  refine jr_icmp_ne rfl (fun _ => ?_) (fun z => absurd z (fun y => by have := jn_eq (hk.symm.trans (show jh_I h 9 0 8 = nI 40 from y)) (by omega) (by decide); omega))
  refine jr_aload rfl rfl ?_
  refine jr_getM rfl rfl rfl rfl hM ?_
  refine jr_iload rfl rfl ?_
  refine jr_if_eq rfl (fun _ => ?_) (fun z => absurd (by decide) z)
  refine jr_aload rfl rfl ?_
  refine jr_getR rfl rfl rfl rfl (Or.inl rfl) ?_
  refine jr_getI rfl rfl ?_
  rw [show jh_I (jU h ρ) 9 0 10 = nI (jT_v B sz (jT_p B sz t)) from z2.2.2.2.1 hK]
  refine jr_cv1 (mc' := 0) (ms' := 0) rfl jm_Rep_emit_n jm_Rep_emit_f rfl rfl rfl rfl rfl rfl rfl (Nat.zero_le _) (Nat.zero_le _) ?_
  have zu := jZ_U z
  refine ev_emit (c := c) zu.2.2.2.2.2.2.1 (by omega) (jZ_asks zu) (fun h2 e2 => ?_)
  have z22 := jZ_emit zu e2
  refine jr_aload rfl rfl ?_
  refine jr_getR rfl rfl rfl rfl (Or.inl rfl) ?_
  refine jr_cv0 (mc' := 0) (ms' := 0) rfl jm_Tape_take_n jm_Tape_take_f rfl rfl rfl rfl rfl rfl rfl (Nat.zero_le _) (Nat.zero_le _) ?_
  refine ev_take (B := B) (sz := sz) z22.1 z22.2.1.1 (jT_next z1 z3 (by omega)) (fun h3 g3 c3 => ?_)
  refine jr_ic rfl ?_
  refine jr_zret rfl rfl rfl (Nat.zero_le _) (Nat.zero_le _) ?_
  have hg := jT_f_gt (B := B) (sz := sz) (t := t) (by omega)
  refine k _ _ (Or.inl ⟨rfl, 1, t + 1, c + 1, jZ_take z22 g3 c3 (jT_next z1 z3 (by omega)), jZ_F_t (Nat.le_refl c) (jZ_F_U h ρ c) (jZ_F_t (Nat.le_refl c) (jZ_F_E e2) (jZ_F_G g3)), by omega, Nat.le_refl _, by omega, by omega, ?_, Or.inl (jT_rk_lt _), ?_⟩)
  · rw [if_neg (by omega)]; omega
  · refine jTR_n hK hu hv (by omega) ?_
    rw [g3.1 25 ρ (by decide), e2.2.2.1, jg_us]
    exact Or.inl ⟨rfl, rfl, nI_pos' (by have := jT_v_lt (B := B) (sz := sz) (t := t) hK; omega)⟩

