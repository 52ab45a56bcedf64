/-- the class's tokens -/
def jTS (h : jx_H) (B : Nat → Int32) (sz T t : Nat) : Prop := jT_al h B sz T ∧ jT_cur h B sz t ∧ t ≤ T
theorem jTS_take {h h' : jx_H} {B : Nat → Int32} {sz T t : Nat} (z : jTS h B sz T t) (g : jT_G h h') (cu : jT_cur h' B sz (t + 1)) (hn : t + 1 ≤ T) : jTS h' B sz T (t + 1) := ⟨jT_al_G z.1 g, cu, hn⟩
def jnF (W : Nat → List Nat) (w : List Nat) : Nat → Nat → Option Nat
  | 0, _ => none
  | m + 1, i => if W i = w then some i else jnF W w m (i + 1)
theorem jnF_lt {W : Nat → List Nat} {w : List Nat} : ∀ m i j, jnF W w m i = some j → i ≤ j ∧ j < i + m ∧ W j = w
  | 0, i, j, h => by cases h
  | m + 1, i, j, h => by
    rw [jnF] at h
    split at h
    · injection h with h
      subst h
      exact ⟨Nat.le_refl _, by omega, by assumption⟩
    · have := jnF_lt m (i + 1) j h
      exact ⟨by omega, by omega, this.2.2⟩
def jo_i : Option Nat → Int32
  | some i => nI i
  | none => -1
def jnW (W : Nat → List Nat) (n : Nat) : Prop := ∀ j, j < n → jT_letters (W j) ∧ (W j).length ≤ 8
theorem jT_k3 {B : Nat → Int32} {sz t : Nat} (h : jT_K B sz t = 3) : jT_letters (jT_wd B sz (jT_p B sz t)) ∧ (jT_wd B sz (jT_p B sz t)).length ≤ 8 := by
  have hk : jT_k B sz (jT_p B sz t) = 3 := h
  unfold jT_k at hk
  by_cases e1 : sz ≤ jT_p B sz t
  · rw [if_pos e1] at hk; omega
  · rw [if_neg e1] at hk
    by_cases e2 : jT_l (jT_c B sz (jT_p B sz t)) = true
    · rw [if_pos e2] at hk
      have hw := jT_wd_l (B := B) (show jT_p B sz t < sz by omega) e2
      by_cases e3 : 8 < jT_f B sz (jT_p B sz t) - jT_p B sz t
      · rw [if_pos e3] at hk; omega
      · exact ⟨hw.1, by omega⟩
    · rw [if_neg e2] at hk
      by_cases e3 : jT_d (jT_c B sz (jT_p B sz t)) = true
      · rw [if_pos e3] at hk
        split at hk <;> omega
      · rw [if_neg e3] at hk
        by_cases e4 : jT_sg (jT_c B sz (jT_p B sz t)) = true
        · rw [if_pos e4] at hk
          have := jT_sg_r e4
          omega
        · rw [if_neg e4] at hk; omega
set_option maxHeartbeats 800000 in
set_option maxRecDepth 100000 in
theorem lp_place_m {d n0 : Nat} {Q : Option jx_V → jx_H → Prop} {h : jx_H} {B : Nat → Int32} {sz T t n : Nat} {W : Nat → List Nat} (i : Nat) (z : jTS h B sz T t) (hK : jT_K B sz t = 3) (hW : jnW W n) (hr : ∀ j, j < n → jh_L h 28 0 j = jy_key (W j)) (hn : n ≤ 6) (hi : i ≤ n) (k : Q (some (jv_i (jo_i (jnF W (jT_wd B sz (jT_p B sz t)) (n - i) i)))) h)  : jx_W (jm_Rdr_placeOfName, d + 1, 0, 0, false, 0, n0) Q 0 0 2 [some (jv_r 6 0), some (jv_r 28 0), some (jv_i (nI n)), some (jv_i (nI i))] [] h := by
  refine jr_iload rfl rfl ?_
  refine jr_iload rfl rfl ?_
  refine jr_icmp_ge rfl (fun c4 => ?_) (fun c4 => ?_)
  · refine jr_ic rfl ?_
    refine jr_iret rfl rfl (Nat.zero_le _) (Nat.zero_le _) ?_
    rw [show n - i = 0 by have := jn_le (show nI n ≤ nI i from c4) (by omega) (by omega); omega] at k
    exact k
  · have hi1 : i < n := jn_nle (show ¬ nI n ≤ nI i from c4) (by omega) (by omega)
    have hw3 := jT_k3 hK
    rw [show n - i = (n - (i + 1)) + 1 by omega, jnF] at k
    refine jr_iload rfl rfl ?_
    refine jr_aload rfl rfl ?_
    refine jr_alen (so := 4) (len := 6) rfl rfl rfl rfl ?_
    refine jr_icmp_ge rfl (fun z => absurd z (nI_ge (a := i) (b := 6) (by omega) (by decide))) (fun _ => ?_)
    refine jr_aload rfl rfl ?_
    refine jr_iload rfl rfl ?_
    refine jr_lald (len := 6) rfl rfl rfl (by omega) ?_
    rw [hr i hi1]
    refine jr_aload rfl rfl ?_
    refine jr_getR rfl rfl rfl rfl (Or.inl rfl) ?_
    refine jr_getL rfl rfl ?_
    rw [show jh_L h 9 0 11 = jy_key (jT_wd B sz (jT_p B sz t)) from z.2.1.2.2.2.2 hK]
    refine jr_lcmp rfl ?_
    refine jr_if_ne rfl (fun c16 => ?_) (fun c16 => ?_)
    · refine jr_iinc3 rfl rfl ?_
      refine jr_goto rfl ?_
      rw [if_neg (fun e => c16 (lg_cmp1 (by rw [e])))] at k
      rw [jn_S]
      exact lp_place_m (i + 1) z hK hW hr hn (by omega) k
    · refine jr_iload rfl rfl ?_
      refine jr_iret rfl rfl (Nat.zero_le _) (Nat.zero_le _) ?_
      rw [if_pos ((jT_5 (hW i hi1).1 hw3.1 (hW i hi1).2 hw3.2).mp (lg_cmp0 c16))] at k
      exact k
termination_by n - i
decreasing_by all_goals omega

set_option maxHeartbeats 800000 in
set_option maxRecDepth 100000 in
theorem ev_place_m {d : Nat} {h : jx_H} {Q : Option jx_V → jx_H → Prop} {B : Nat → Int32} {sz T t n : Nat} {W : Nat → List Nat} (z : jTS h B sz T t) (hK : jT_K B sz t = 3) (hW : jnW W n) (hr : ∀ j, j < n → jh_L h 28 0 j = jy_key (W j)) (hn : n ≤ 6) (k : Q (some (jv_i (jo_i (jnF W (jT_wd B sz (jT_p B sz t)) n 0)))) h)  : jx_Ev jm_Rdr_placeOfName (d + 1) 0 0 false 0 [jv_r 6 0, jv_r 28 0, jv_i (nI n)] h Q := by
  show jx_W (jm_Rdr_placeOfName, d + 1, 0, 0, false, 0, _) Q 0 0 0 [some (jv_r 6 0), some (jv_r 28 0), some (jv_i (nI n)), none] [] _
  refine jr_ic rfl ?_
  refine jr_ist3 rfl rfl ?_
  exact lp_place_m 0 z hK hW hr hn (Nat.zero_le _) k

set_option maxHeartbeats 800000 in
set_option maxRecDepth 100000 in
theorem lp_place_p {d n0 : Nat} {Q : Option jx_V → jx_H → Prop} {h : jx_H} {B : Nat → Int32} {sz T t n : Nat} {W : Nat → List Nat} (i : Nat) (z : jTS h B sz T t) (hK : jT_K B sz t = 3) (hW : jnW W n) (hr : ∀ j, j < n → jh_L h 29 0 j = jy_key (W j)) (hn : n ≤ 5) (hi : i ≤ n) (k : Q (some (jv_i (jo_i (jnF W (jT_wd B sz (jT_p B sz t)) (n - i) i)))) h)  : jx_W (jm_Rdr_placeOfName, d + 1, 0, 0, false, 0, n0) Q 0 0 2 [some (jv_r 6 0), some (jv_r 29 0), some (jv_i (nI n)), some (jv_i (nI i))] [] h := by
  refine jr_iload rfl rfl ?_
  refine jr_iload rfl rfl ?_
  refine jr_icmp_ge rfl (fun c4 => ?_) (fun c4 => ?_)
  · refine jr_ic rfl ?_
    refine jr_iret rfl rfl (Nat.zero_le _) (Nat.zero_le _) ?_
    rw [show n - i = 0 by have := jn_le (show nI n ≤ nI i from c4) (by omega) (by omega); omega] at k
    exact k
  · have hi1 : i < n := jn_nle (show ¬ nI n ≤ nI i from c4) (by omega) (by omega)
    have hw3 := jT_k3 hK
    rw [show n - i = (n - (i + 1)) + 1 by omega, jnF] at k
    refine jr_iload rfl rfl ?_
    refine jr_aload rfl rfl ?_
    refine jr_alen (so := 4) (len := 5) rfl rfl rfl rfl ?_
    refine jr_icmp_ge rfl (fun z => absurd z (nI_ge (a := i) (b := 5) (by omega) (by decide))) (fun _ => ?_)
    refine jr_aload rfl rfl ?_
    refine jr_iload rfl rfl ?_
    refine jr_lald (len := 5) rfl rfl rfl (by omega) ?_
    rw [hr i hi1]
    refine jr_aload rfl rfl ?_
    refine jr_getR rfl rfl rfl rfl (Or.inl rfl) ?_
    refine jr_getL rfl rfl ?_
    rw [show jh_L h 9 0 11 = jy_key (jT_wd B sz (jT_p B sz t)) from z.2.1.2.2.2.2 hK]
    refine jr_lcmp rfl ?_
    refine jr_if_ne rfl (fun c16 => ?_) (fun c16 => ?_)
    · refine jr_iinc3 rfl rfl ?_
      refine jr_goto rfl ?_
      rw [if_neg (fun e => c16 (lg_cmp1 (by rw [e])))] at k
      rw [jn_S]
      exact lp_place_p (i + 1) z hK hW hr hn (by omega) k
    · refine jr_iload rfl rfl ?_
      refine jr_iret rfl rfl (Nat.zero_le _) (Nat.zero_le _) ?_
      rw [if_pos ((jT_5 (hW i hi1).1 hw3.1 (hW i hi1).2 hw3.2).mp (lg_cmp0 c16))] at k
      exact k
termination_by n - i
decreasing_by all_goals omega

set_option maxHeartbeats 800000 in
set_option maxRecDepth 100000 in
theorem ev_place_p {d : Nat} {h : jx_H} {Q : Option jx_V → jx_H → Prop} {B : Nat → Int32} {sz T t n : Nat} {W : Nat → List Nat} (z : jTS h B sz T t) (hK : jT_K B sz t = 3) (hW : jnW W n) (hr : ∀ j, j < n → jh_L h 29 0 j = jy_key (W j)) (hn : n ≤ 5) (k : Q (some (jv_i (jo_i (jnF W (jT_wd B sz (jT_p B sz t)) n 0)))) h)  : jx_Ev jm_Rdr_placeOfName (d + 1) 0 0 false 0 [jv_r 6 0, jv_r 29 0, jv_i (nI n)] h Q := by
  show jx_W (jm_Rdr_placeOfName, d + 1, 0, 0, false, 0, _) Q 0 0 0 [some (jv_r 6 0), some (jv_r 29 0), some (jv_i (nI n)), none] [] _
  refine jr_ic rfl ?_
  refine jr_ist3 rfl rfl ?_
  exact lp_place_p 0 z hK hW hr hn (Nat.zero_le _) k

set_option maxHeartbeats 800000 in
set_option maxRecDepth 100000 in
theorem lp_place_d {d n0 : Nat} {Q : Option jx_V → jx_H → Prop} {h : jx_H} {B : Nat → Int32} {sz T t n : Nat} {W : Nat → List Nat} (i : Nat) (z : jTS h B sz T t) (hK : jT_K B sz t = 3) (hW : jnW W n) (hr : ∀ j, j < n → jh_L h 30 0 j = jy_key (W j)) (hn : n ≤ 12) (hi : i ≤ n) (k : Q (some (jv_i (jo_i (jnF W (jT_wd B sz (jT_p B sz t)) (n - i) i)))) h)  : jx_W (jm_Rdr_placeOfName, d + 1, 0, 0, false, 0, n0) Q 0 0 2 [some (jv_r 6 0), some (jv_r 30 0), some (jv_i (nI n)), some (jv_i (nI i))] [] h := by
  refine jr_iload rfl rfl ?_
  refine jr_iload rfl rfl ?_
  refine jr_icmp_ge rfl (fun c4 => ?_) (fun c4 => ?_)
  · refine jr_ic rfl ?_
    refine jr_iret rfl rfl (Nat.zero_le _) (Nat.zero_le _) ?_
    rw [show n - i = 0 by have := jn_le (show nI n ≤ nI i from c4) (by omega) (by omega); omega] at k
    exact k
  · have hi1 : i < n := jn_nle (show ¬ nI n ≤ nI i from c4) (by omega) (by omega)
    have hw3 := jT_k3 hK
    rw [show n - i = (n - (i + 1)) + 1 by omega, jnF] at k
    refine jr_iload rfl rfl ?_
    refine jr_aload rfl rfl ?_
    refine jr_alen (so := 4) (len := 12) rfl rfl rfl rfl ?_
    refine jr_icmp_ge rfl (fun z => absurd z (nI_ge (a := i) (b := 12) (by omega) (by decide))) (fun _ => ?_)
    refine jr_aload rfl rfl ?_
    refine jr_iload rfl rfl ?_
    refine jr_lald (len := 12) rfl rfl rfl (by omega) ?_
    rw [hr i hi1]
    refine jr_aload rfl rfl ?_
    refine jr_getR rfl rfl rfl rfl (Or.inl rfl) ?_
    refine jr_getL rfl rfl ?_
    rw [show jh_L h 9 0 11 = jy_key (jT_wd B sz (jT_p B sz t)) from z.2.1.2.2.2.2 hK]
    refine jr_lcmp rfl ?_
    refine jr_if_ne rfl (fun c16 => ?_) (fun c16 => ?_)
    · refine jr_iinc3 rfl rfl ?_
      refine jr_goto rfl ?_
      rw [if_neg (fun e => c16 (lg_cmp1 (by rw [e])))] at k
      rw [jn_S]
      exact lp_place_d (i + 1) z hK hW hr hn (by omega) k
    · refine jr_iload rfl rfl ?_
      refine jr_iret rfl rfl (Nat.zero_le _) (Nat.zero_le _) ?_
      rw [if_pos ((jT_5 (hW i hi1).1 hw3.1 (hW i hi1).2 hw3.2).mp (lg_cmp0 c16))] at k
      exact k
termination_by n - i
decreasing_by all_goals omega

set_option maxHeartbeats 800000 in
set_option maxRecDepth 100000 in
theorem ev_place_d {d : Nat} {h : jx_H} {Q : Option jx_V → jx_H → Prop} {B : Nat → Int32} {sz T t n : Nat} {W : Nat → List Nat} (z : jTS h B sz T t) (hK : jT_K B sz t = 3) (hW : jnW W n) (hr : ∀ j, j < n → jh_L h 30 0 j = jy_key (W j)) (hn : n ≤ 12) (k : Q (some (jv_i (jo_i (jnF W (jT_wd B sz (jT_p B sz t)) n 0)))) h)  : jx_Ev jm_Rdr_placeOfName (d + 1) 0 0 false 0 [jv_r 6 0, jv_r 30 0, jv_i (nI n)] h Q := by
  show jx_W (jm_Rdr_placeOfName, d + 1, 0, 0, false, 0, _) Q 0 0 0 [some (jv_r 6 0), some (jv_r 30 0), some (jv_i (nI n)), none] [] _
  refine jr_ic rfl ?_
  refine jr_ist3 rfl rfl ?_
  exact lp_place_d 0 z hK hW hr hn (Nat.zero_le _) k

set_option maxHeartbeats 800000 in
set_option maxRecDepth 100000 in
theorem lp_here_m {d n0 : Nat} {Q : Option jx_V → jx_H → Prop} {h : jx_H} {B : Nat → Int32} {sz t : Nat} {β n : Nat} {W : Nat → List Nat} (i : Nat) (hc : jT_mc h B sz t) (hβ : β < 2) (hW : jnW W n) (hr : ∀ j, j < n → jh_L h 90 0 (6 * β + j) = jT_key (W j)) (hn : n ≤ 6) (hi : i ≤ n) (k : Q (some (jv_i (jo_i (if jT_K B sz t = 3 then jnF W (jT_wd B sz (jT_p B sz t)) (n - i) i else none)))) h)  : jx_W (jm_MD_here, d + 1, 0, 0, false, 1, n0) Q 0 0 2 [some (jv_r 11 0), some (jv_r 90 0), some (jv_i (nI (6 * β))), some (jv_i (nI n)), some (jv_i (nI i))] [] h := by
  refine jr_iload rfl rfl ?_
  refine jr_iload rfl rfl ?_
  refine jr_icmp_ge rfl (fun c4 => ?_) (fun c4 => ?_)
  · refine jr_ic rfl ?_
    refine jr_iret rfl rfl (Nat.zero_le _) (Nat.zero_le _) ?_
    rw [show n - i = 0 by have := jn_le (show nI n ≤ nI i from c4) (by omega) (by omega); omega] at k
    rw [show (if jT_K B sz t = 3 then jnF W (jT_wd B sz (jT_p B sz t)) 0 i else none) = none from by split <;> rfl] at k
    exact k
  · have hi1 : i < n := jn_nle (show ¬ nI n ≤ nI i from c4) (by omega) (by omega)
    rw [show n - i = (n - (i + 1)) + 1 by omega, jnF] at k
    refine jr_aload rfl rfl ?_
    refine jr_getI rfl rfl ?_
    refine jr_ic rfl ?_
    rw [hc.2.2.1]
    refine jr_icmp_ne rfl (fun c8 => ?_) (fun c8 => ?_)
    · refine jr_iinc4 rfl rfl ?_
      refine jr_goto rfl ?_
      have hK : ¬ jT_K B sz t = 3 := fun y => c8 (jT_mt2.mpr y)
      rw [if_neg hK] at k
      rw [jn_S]
      refine lp_here_m (i + 1) hc hβ hW hr hn (by omega) ?_
      rw [if_neg hK]
      exact k
    · refine jr_aload rfl rfl ?_
      refine jr_iload rfl rfl ?_
      refine jr_iload rfl rfl ?_
      refine jr_iadd rfl ?_
      refine jr_lald (len := 12) rfl rfl (jn_add rfl rfl) (by omega) ?_
      have hK : jT_K B sz t = 3 := jT_mt2.mp c8
      have hw3 := jT_k3 hK
      rw [hr i hi1]
      refine jr_aload rfl rfl ?_
      refine jr_getL rfl rfl ?_
      rw [show jh_L h 11 0 10 = jT_key (jT_wd B sz (jT_p B sz t)) from hc.2.2.2.2 (Or.inl hK)]
      refine jr_lcmp rfl ?_
      refine jr_if_ne rfl (fun c17 => ?_) (fun c17 => ?_)
      · refine jr_iinc4 rfl rfl ?_
        refine jr_goto rfl ?_
        rw [if_pos hK, if_neg (fun e => c17 (lg_cmp1 (by rw [e])))] at k
        rw [jn_S]
        refine lp_here_m (i + 1) hc hβ hW hr hn (by omega) ?_
        rw [if_pos hK]
        exact k
      · refine jr_iload rfl rfl ?_
        refine jr_iret rfl rfl (Nat.zero_le _) (Nat.zero_le _) ?_
        rw [if_pos hK, if_pos ((jT_8 (hW i hi1).1 hw3.1 (hW i hi1).2 hw3.2).mp (lg_cmp0 c17))] at k
        exact k
termination_by n - i
decreasing_by all_goals omega

set_option maxHeartbeats 800000 in
set_option maxRecDepth 100000 in
theorem eM_here_m {d : Nat} {h : jx_H} {Q : Option jx_V → jx_H → Prop} {B : Nat → Int32} {sz t : Nat} {β n : Nat} {W : Nat → List Nat} (hc : jT_mc h B sz t) (hβ : β < 2) (hW : jnW W n) (hr : ∀ j, j < n → jh_L h 90 0 (6 * β + j) = jT_key (W j)) (hn : n ≤ 6) (k : Q (some (jv_i (jo_i (if jT_K B sz t = 3 then jnF W (jT_wd B sz (jT_p B sz t)) n 0 else none)))) h)  : jx_Ev jm_MD_here (d + 1) 0 0 false 1 [jv_r 11 0, jv_r 90 0, jv_i (nI (6 * β)), jv_i (nI n)] h Q := by
  show jx_W (jm_MD_here, d + 1, 0, 0, false, 1, _) Q 0 0 0 [some (jv_r 11 0), some (jv_r 90 0), some (jv_i (nI (6 * β))), some (jv_i (nI n)), none] [] _
  refine jr_ic rfl ?_
  refine jr_ist4 rfl rfl ?_
  exact lp_here_m 0 hc hβ hW hr hn (Nat.zero_le _) k

set_option maxHeartbeats 800000 in
set_option maxRecDepth 100000 in
theorem lp_here_p {d n0 : Nat} {Q : Option jx_V → jx_H → Prop} {h : jx_H} {B : Nat → Int32} {sz t : Nat} {β n : Nat} {W : Nat → List Nat} (i : Nat) (hc : jT_mc h B sz t) (hβ : β < 2) (hW : jnW W n) (hr : ∀ j, j < n → jh_L h 91 0 (5 * β + j) = jT_key (W j)) (hn : n ≤ 5) (hi : i ≤ n) (k : Q (some (jv_i (jo_i (if jT_K B sz t = 3 then jnF W (jT_wd B sz (jT_p B sz t)) (n - i) i else none)))) h)  : jx_W (jm_MD_here, d + 1, 0, 0, false, 1, n0) Q 0 0 2 [some (jv_r 11 0), some (jv_r 91 0), some (jv_i (nI (5 * β))), some (jv_i (nI n)), some (jv_i (nI i))] [] h := by
  refine jr_iload rfl rfl ?_
  refine jr_iload rfl rfl ?_
  refine jr_icmp_ge rfl (fun c4 => ?_) (fun c4 => ?_)
  · refine jr_ic rfl ?_
    refine jr_iret rfl rfl (Nat.zero_le _) (Nat.zero_le _) ?_
    rw [show n - i = 0 by have := jn_le (show nI n ≤ nI i from c4) (by omega) (by omega); omega] at k
    rw [show (if jT_K B sz t = 3 then jnF W (jT_wd B sz (jT_p B sz t)) 0 i else none) = none from by split <;> rfl] at k
    exact k
  · have hi1 : i < n := jn_nle (show ¬ nI n ≤ nI i from c4) (by omega) (by omega)
    rw [show n - i = (n - (i + 1)) + 1 by omega, jnF] at k
    refine jr_aload rfl rfl ?_
    refine jr_getI rfl rfl ?_
    refine jr_ic rfl ?_
    rw [hc.2.2.1]
    refine jr_icmp_ne rfl (fun c8 => ?_) (fun c8 => ?_)
    · refine jr_iinc4 rfl rfl ?_
      refine jr_goto rfl ?_
      have hK : ¬ jT_K B sz t = 3 := fun y => c8 (jT_mt2.mpr y)
      rw [if_neg hK] at k
      rw [jn_S]
      refine lp_here_p (i + 1) hc hβ hW hr hn (by omega) ?_
      rw [if_neg hK]
      exact k
    · refine jr_aload rfl rfl ?_
      refine jr_iload rfl rfl ?_
      refine jr_iload rfl rfl ?_
      refine jr_iadd rfl ?_
      refine jr_lald (len := 10) rfl rfl (jn_add rfl rfl) (by omega) ?_
      have hK : jT_K B sz t = 3 := jT_mt2.mp c8
      have hw3 := jT_k3 hK
      rw [hr i hi1]
      refine jr_aload rfl rfl ?_
      refine jr_getL rfl rfl ?_
      rw [show jh_L h 11 0 10 = jT_key (jT_wd B sz (jT_p B sz t)) from hc.2.2.2.2 (Or.inl hK)]
      refine jr_lcmp rfl ?_
      refine jr_if_ne rfl (fun c17 => ?_) (fun c17 => ?_)
      · refine jr_iinc4 rfl rfl ?_
        refine jr_goto rfl ?_
        rw [if_pos hK, if_neg (fun e => c17 (lg_cmp1 (by rw [e])))] at k
        rw [jn_S]
        refine lp_here_p (i + 1) hc hβ hW hr hn (by omega) ?_
        rw [if_pos hK]
        exact k
      · refine jr_iload rfl rfl ?_
        refine jr_iret rfl rfl (Nat.zero_le _) (Nat.zero_le _) ?_
        rw [if_pos hK, if_pos ((jT_8 (hW i hi1).1 hw3.1 (hW i hi1).2 hw3.2).mp (lg_cmp0 c17))] at k
        exact k
termination_by n - i
decreasing_by all_goals omega

set_option maxHeartbeats 800000 in
set_option maxRecDepth 100000 in
theorem eM_here_p {d : Nat} {h : jx_H} {Q : Option jx_V → jx_H → Prop} {B : Nat → Int32} {sz t : Nat} {β n : Nat} {W : Nat → List Nat} (hc : jT_mc h B sz t) (hβ : β < 2) (hW : jnW W n) (hr : ∀ j, j < n → jh_L h 91 0 (5 * β + j) = jT_key (W j)) (hn : n ≤ 5) (k : Q (some (jv_i (jo_i (if jT_K B sz t = 3 then jnF W (jT_wd B sz (jT_p B sz t)) n 0 else none)))) h)  : jx_Ev jm_MD_here (d + 1) 0 0 false 1 [jv_r 11 0, jv_r 91 0, jv_i (nI (5 * β)), jv_i (nI n)] h Q := by
  show jx_W (jm_MD_here, d + 1, 0, 0, false, 1, _) Q 0 0 0 [some (jv_r 11 0), some (jv_r 91 0), some (jv_i (nI (5 * β))), some (jv_i (nI n)), none] [] _
  refine jr_ic rfl ?_
  refine jr_ist4 rfl rfl ?_
  exact lp_here_p 0 hc hβ hW hr hn (Nat.zero_le _) k

set_option maxHeartbeats 800000 in
set_option maxRecDepth 100000 in
theorem lp_here_d {d n0 : Nat} {Q : Option jx_V → jx_H → Prop} {h : jx_H} {B : Nat → Int32} {sz t : Nat} {β n : Nat} {W : Nat → List Nat} (i : Nat) (hc : jT_mc h B sz t) (hβ : β < 2) (hW : jnW W n) (hr : ∀ j, j < n → jh_L h 92 0 (12 * β + j) = jT_key (W j)) (hn : n ≤ 12) (hi : i ≤ n) (k : Q (some (jv_i (jo_i (if jT_K B sz t = 3 then jnF W (jT_wd B sz (jT_p B sz t)) (n - i) i else none)))) h)  : jx_W (jm_MD_here, d + 1, 0, 0, false, 1, n0) Q 0 0 2 [some (jv_r 11 0), some (jv_r 92 0), some (jv_i (nI (12 * β))), some (jv_i (nI n)), some (jv_i (nI i))] [] h := by
  refine jr_iload rfl rfl ?_
  refine jr_iload rfl rfl ?_
  refine jr_icmp_ge rfl (fun c4 => ?_) (fun c4 => ?_)
  · refine jr_ic rfl ?_
    refine jr_iret rfl rfl (Nat.zero_le _) (Nat.zero_le _) ?_
    rw [show n - i = 0 by have := jn_le (show nI n ≤ nI i from c4) (by omega) (by omega); omega] at k
    rw [show (if jT_K B sz t = 3 then jnF W (jT_wd B sz (jT_p B sz t)) 0 i else none) = none from by split <;> rfl] at k
    exact k
  · have hi1 : i < n := jn_nle (show ¬ nI n ≤ nI i from c4) (by omega) (by omega)
    rw [show n - i = (n - (i + 1)) + 1 by omega, jnF] at k
    refine jr_aload rfl rfl ?_
    refine jr_getI rfl rfl ?_
    refine jr_ic rfl ?_
    rw [hc.2.2.1]
    refine jr_icmp_ne rfl (fun c8 => ?_) (fun c8 => ?_)
    · refine jr_iinc4 rfl rfl ?_
      refine jr_goto rfl ?_
      have hK : ¬ jT_K B sz t = 3 := fun y => c8 (jT_mt2.mpr y)
      rw [if_neg hK] at k
      rw [jn_S]
      refine lp_here_d (i + 1) hc hβ hW hr hn (by omega) ?_
      rw [if_neg hK]
      exact k
    · refine jr_aload rfl rfl ?_
      refine jr_iload rfl rfl ?_
      refine jr_iload rfl rfl ?_
      refine jr_iadd rfl ?_
      refine jr_lald (len := 24) rfl rfl (jn_add rfl rfl) (by omega) ?_
      have hK : jT_K B sz t = 3 := jT_mt2.mp c8
      have hw3 := jT_k3 hK
      rw [hr i hi1]
      refine jr_aload rfl rfl ?_
      refine jr_getL rfl rfl ?_
      rw [show jh_L h 11 0 10 = jT_key (jT_wd B sz (jT_p B sz t)) from hc.2.2.2.2 (Or.inl hK)]
      refine jr_lcmp rfl ?_
      refine jr_if_ne rfl (fun c17 => ?_) (fun c17 => ?_)
      · refine jr_iinc4 rfl rfl ?_
        refine jr_goto rfl ?_
        rw [if_pos hK, if_neg (fun e => c17 (lg_cmp1 (by rw [e])))] at k
        rw [jn_S]
        refine lp_here_d (i + 1) hc hβ hW hr hn (by omega) ?_
        rw [if_pos hK]
        exact k
      · refine jr_iload rfl rfl ?_
        refine jr_iret rfl rfl (Nat.zero_le _) (Nat.zero_le _) ?_
        rw [if_pos hK, if_pos ((jT_8 (hW i hi1).1 hw3.1 (hW i hi1).2 hw3.2).mp (lg_cmp0 c17))] at k
        exact k
termination_by n - i
decreasing_by all_goals omega

set_option maxHeartbeats 800000 in
set_option maxRecDepth 100000 in
theorem eM_here_d {d : Nat} {h : jx_H} {Q : Option jx_V → jx_H → Prop} {B : Nat → Int32} {sz t : Nat} {β n : Nat} {W : Nat → List Nat} (hc : jT_mc h B sz t) (hβ : β < 2) (hW : jnW W n) (hr : ∀ j, j < n → jh_L h 92 0 (12 * β + j) = jT_key (W j)) (hn : n ≤ 12) (k : Q (some (jv_i (jo_i (if jT_K B sz t = 3 then jnF W (jT_wd B sz (jT_p B sz t)) n 0 else none)))) h)  : jx_Ev jm_MD_here (d + 1) 0 0 false 1 [jv_r 11 0, jv_r 92 0, jv_i (nI (12 * β)), jv_i (nI n)] h Q := by
  show jx_W (jm_MD_here, d + 1, 0, 0, false, 1, _) Q 0 0 0 [some (jv_r 11 0), some (jv_r 92 0), some (jv_i (nI (12 * β))), some (jv_i (nI n)), none] [] _
  refine jr_ic rfl ?_
  refine jr_ist4 rfl rfl ?_
  exact lp_here_d 0 hc hβ hW hr hn (Nat.zero_le _) k

