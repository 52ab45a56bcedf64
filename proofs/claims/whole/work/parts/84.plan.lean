theorem jq_may0 {f t l : Nat} {P : Nat → Int32} (hft : f ≤ t) (ht : t ≤ 31) (hl : l < 32) : ¬ jw_may (nI f) (nI t) 0 P l = 0 ↔ f ≤ l ∧ l ≤ t := by
  by_cases hin : nI f ≤ nI l ∧ nI l ≤ nI t
  · have e : jw_m0 (nI f) (nI t) 0 P l = 1 := by
      unfold jw_m0
      rw [if_pos hin, if_pos rfl]
    have e2 : jw_may (nI f) (nI t) 0 P l = 1 := by
      rw [jw_may_in hin, e]
      split <;> rfl
    rw [e2]
    exact ⟨fun _ => ⟨jn_le hin.1 (by omega) (by omega), jn_le hin.2 (by omega) (by omega)⟩, fun _ => by decide⟩
  · have e2 : jw_may (nI f) (nI t) 0 P l = 0 := by
      unfold jw_may
      rw [if_neg hin]
    rw [e2]
    refine ⟨fun z => absurd rfl z, fun z => absurd ⟨nI_le z.1 (by omega), nI_le z.2 (by omega)⟩ hin⟩
theorem jq_month {hm : jx_H} {b w : Nat} (hw : jz_W hm b) (h0 : 0 < jz_nm hm b) (hA : jA hm 0 = nI w) (hw2 : w < 2 ^ 31) : jw_month (jC hm b) (jA hm) = nI (w % jz_nm hm b) := by
  unfold jw_month
  rw [hA, show jC hm b 0 0 = nI (jz_nm hm b) from hw.2.2.1.1.1]
  exact jn_rem hw2 (by have := hw.2.2.1.1.2; omega) h0
theorem jq_free {hm : jx_H} {b w l : Nat} (hw : jz_W hm b) (h0 : 0 < jz_nm hm b) (hA : jA hm 0 = nI w) (hw2 : w < 2 ^ 31) (hlaw : jC hm b 18 5 = 0) (hl : l < 32) : ¬ jw_mayb hm b l = 0 ↔ jl_f hm b w ≤ l ∧ l ≤ jl_t hm b w := by
  obtain ⟨h1, h2, h3, h4, h5⟩ := jl_ft hw h0 w
  have hnm := hw.2.2.1.1.2
  unfold jw_mayb
  rw [jq_month hw h0 hA hw2, nI_clamp (by omega), hlaw, h1, h2]
  exact jq_may0 h3 h4 hl
def jq_ct (M : Nat → Int32) : Nat → Nat → Nat
  | 0, _ => 0
  | m + 1, l => (if M l = 0 then 0 else 1) + jq_ct M m (l + 1)
theorem jq_ct_r {M : Nat → Int32} {f t : Nat} (hM : ∀ l, l < 32 → (¬ M l = 0 ↔ f ≤ l ∧ l ≤ t)) (hft : f ≤ t) : ∀ m l, l + m ≤ 32 → jq_ct M m l = min (l + m) (t + 1) - max l f
  | 0, l, h => by rw [jq_ct]; omega
  | m + 1, l, h => by
    rw [jq_ct, jq_ct_r hM hft m (l + 1) (by omega)]
    have := hM l (by omega)
    by_cases e : M l = 0
    · rw [if_pos e]
      have : ¬ (f ≤ l ∧ l ≤ t) := fun z => this.mpr z e
      omega
    · rw [if_neg e]
      have := this.mp e
      omega
theorem jq_len_n {M : Nat → Int32} {F : Nat → jq_S → Option jq_S} {c : Nat} (hF : ∀ l σ σ', l < 32 → F l σ = some σ' → σ'.1 = σ.1 + c) : ∀ m l σ σ', l + m ≤ 32 → jq_len M F m l σ = some σ' → σ'.1 = σ.1 + jq_ct M m l * (1 + c)
  | 0, l, σ, σ', h, e => by
    rw [jq_len] at e
    injection e with e
    rw [← e, jq_ct]
    omega
  | m + 1, l, σ, σ', h, e => by
    rw [jq_len] at e
    rw [jq_ct]
    by_cases z : M l = 0
    · rw [if_pos z] at e ⊢
      rw [jq_len_n hF m (l + 1) σ σ' (by omega) e, Nat.zero_add]
    · rw [if_neg z] at e ⊢
      by_cases y : 20000 < σ.1 + 1
      · rw [if_pos y] at e; cases e
      · rw [if_neg y] at e
        cases e2 : F l (σ.1 + 1, σ.2) with
        | none => rw [e2] at e; cases e
        | some σ2 =>
          rw [e2] at e
          have h1 := jq_len_n hF m (l + 1) σ2 σ' (by omega) e
          have h2 := hF l _ _ (by omega) e2
          rw [h1, h2, Nat.add_mul, Nat.one_mul]
          omega
theorem jq_len_le {M : Nat → Int32} {F : Nat → jq_S → Option jq_S} (hF : ∀ l σ σ', σ.1 ≤ 20000 → F l σ = some σ' → σ'.1 ≤ 20000) : ∀ m l σ σ', σ.1 ≤ 20000 → jq_len M F m l σ = some σ' → σ'.1 ≤ 20000
  | 0, l, σ, σ', h, e => by
    rw [jq_len] at e
    injection e with e
    rw [← e]; exact h
  | m + 1, l, σ, σ', h, e => by
    rw [jq_len] at e
    by_cases z : M l = 0
    · rw [if_pos z] at e
      exact jq_len_le hF m (l + 1) σ σ' h e
    · rw [if_neg z] at e
      by_cases y : 20000 < σ.1 + 1
      · rw [if_pos y] at e; cases e
      · rw [if_neg y] at e
        cases e2 : F l (σ.1 + 1, σ.2) with
        | none => rw [e2] at e; cases e
        | some σ2 =>
          rw [e2] at e
          exact jq_len_le hF m (l + 1) σ2 σ' (hF l _ _ (by show σ.1 + 1 ≤ 20000; omega) e2) e
def jq_T (W : Nat → Nat) : Nat → Nat → Nat
  | 0, _ => 0
  | n + 1, i => W i * (1 + jq_T W n (i + 1))
theorem jq_go_le {hm : jx_H} {b p : Nat} : ∀ r dp a s row σ σ', σ.1 ≤ 20000 → jq_go hm b p r dp a s row σ = some σ' → σ'.1 ≤ 20000
  | 0, dp, a, s, row, (k, o), σ', h, e => by
    injection e with e
    rw [← e]
    cases o with
    | none => exact h
    | some x =>
      obtain ⟨v, R⟩ := x
      unfold jq_cmp
      dsimp only
      split <;> exact h
  | r + 1, dp, a, s, row, σ, σ', h, e => jq_len_le (fun l σ σ' h1 h2 => jq_go_le r _ _ _ _ _ _ h1 h2) 32 0 σ σ' h e
theorem jq_go_n {hm : jx_H} {b p : Nat} (hB : jz_B hm b) (hmo : ¬ jC hm b 0 0 = 0) (h0 : 0 < jz_nm hm b) (hlaw : jC hm b 18 5 = 0) : ∀ r dp a s row σ σ' w, jz_A (jz_np hm b) (jz_nm hm b) a → a 0 = nI w → w + r ≤ 511 → jq_go hm b p r dp a s row σ = some σ' → σ'.1 = σ.1 + jq_T (jl_w hm b) r w
  | 0, dp, a, s, row, (k, o), σ', w, hA, hw, hwr, e => by
    injection e with e
    rw [← e]
    cases o with
    | none => rfl
    | some x =>
      obtain ⟨v, R⟩ := x
      unfold jq_cmp
      dsimp only
      split <;> rfl
  | r + 1, dp, a, s, row, σ, σ', w, hA, hw, hwr, e => by
    have h1 := jq_len_n (c := jq_T (jl_w hm b) r (w + 1)) (fun l σ σ' hl h2 => by
      obtain ⟨hA1, hw1⟩ := jz_A_gb hB.2.2 hmo hA hw (by omega) (show l ≤ 31 by omega)
      exact jq_go_n hB hmo h0 hlaw r _ _ _ _ _ _ (w + 1) hA1 hw1 (by omega) h2) 32 0 σ σ' (by omega) e
    have hWa := jz_Wa hB hA
    obtain ⟨-, -, f3, f4, -⟩ := jl_ft hWa h0 w
    have f3 : jl_f hm b w ≤ jl_t hm b w := f3
    have f4 : jl_t hm b w ≤ 31 := f4
    rw [h1, jq_ct_r (f := jl_f hm b w) (t := jl_t hm b w) (fun l hl => jq_free (hm := jw_h hm a) hWa h0 hw (by omega) hlaw hl) f3 32 0 (by omega), jq_T]
    rw [show min (0 + 32) (jl_t hm b w + 1) - max 0 (jl_f hm b w) = jl_w hm b w from by unfold jl_w; omega]
theorem jq_T_none {hm : jx_H} {b p n w : Nat} {a : jw_A} {s : Int32} {row : Nat → Int32} (hB : jz_B hm b) (hmo : ¬ jC hm b 0 0 = 0) (h0 : 0 < jz_nm hm b) (hlaw : jC hm b 18 5 = 0) (hA : jz_A (jz_np hm b) (jz_nm hm b) a) (hw : a 0 = nI w) (hwn : w + n ≤ 511) (hT : 20000 < jq_T (jl_w hm b) n w) : jq_go hm b p n 0 a s row (0, none) = none := by
  cases e : jq_go hm b p n 0 a s row (0, none) with
  | none => rfl
  | some σ' =>
    have h1 := jq_go_n hB hmo h0 hlaw n 0 a s row _ _ w hA hw hwn e
    have h2 := jq_go_le n 0 a s row _ _ (by decide) e
    rw [h1] at h2
    have h3 : 0 + jq_T (jl_w hm b) n w ≤ 20000 := h2
    omega
theorem jq_nx {nm w i : Nat} (h0 : 0 < nm) : (w + (i + 1)) % nm = jw_nx1 nm ((w + i) % nm) := by
  rw [← jw_nx1_mod (Nat.mod_lt _ h0), ← Nat.add_assoc, Nat.mod_add_mod]
set_option maxHeartbeats 800000 in
set_option maxRecDepth 100000 in
theorem lp_spent {d n0 : Nat} {Q : Option jx_V → jx_H → Prop} {h hm : jx_H} {b r n w : Nat} {x2 : Int32} (i A z : Nat) (x5 : Int32) (hw : jz_W hm b) (hR : jy_R h r hm b) (h0 : 0 < jz_nm hm b) (h9 : jh_I h 3 0 9 = nI n) (hn4 : n ≤ 4) (hw3 : w ≤ 400) (hlaw : jC hm b 18 5 = 0) (hx5 : x5 = nI ((w + i) % jz_nm hm b)) (hi : i ≤ n) (hA : A ≤ i * 1048576) (hz : z ≤ 32 ^ i) (htot : A + z * jq_T (jl_w hm b) (n - i) (w + i) = jq_T (jl_w hm b) n w) (k : ∀ v : Int32, (v = 0 ∨ v = 1 ∧ jC hm b 18 5 = 0 ∧ 20000 < jq_T (jl_w hm b) n w) → Q (some (jv_i v)) h)  : jx_W (jm_For_isSpentAtOnce, d + 3, 0, 0, false, 0, n0) Q 0 0 13 [some (jv_r 3 0), some (jv_r 7 r), some (jv_i x2), some (jv_i (nI A)), some (jv_i (nI z)), some (jv_i x5), some (jv_i (nI i))] [] h := by
  have hft := jl_ft hw h0 (w + i)
  obtain ⟨ft1, ft2, ft3, ft4, ft5⟩ := hft
  have hnm6 := hw.2.2.1.1.2
  have hwb := jl_w_b hw h0 (w + i)
  have hz3 : z * jl_w hm b (w + i) ≤ 32 ^ i * 32 := Nat.mul_le_mul hz hwb.2
  refine jr_iload rfl rfl ?_
  refine jr_aload rfl rfl ?_
  refine jr_getI rfl rfl ?_
  rw [h9]
  refine jr_icmp_ge rfl (fun c16 => ?_) (fun c16 => ?_)
  · refine jr_iload rfl rfl ?_
    refine jr_ic rfl ?_
    refine jr_icmp_le rfl (fun c49 => ?_) (fun c49 => ?_)
    · refine jr_ic rfl ?_
      refine jr_zret rfl rfl rfl (Nat.zero_le _) (Nat.zero_le _) ?_
      exact k 0 (Or.inl rfl)
    · refine jr_ic rfl ?_
      refine jr_goto rfl ?_
      refine jr_zret rfl rfl rfl (Nat.zero_le _) (Nat.zero_le _) ?_
      have hi2 : i = n := by have := jn_le (show nI n ≤ nI i from c16) (by omega) (by omega); omega
      subst hi2
      rw [Nat.sub_self, jq_T, Nat.mul_zero, Nat.add_zero] at htot
      refine k 1 (Or.inr ⟨rfl, hlaw, ?_⟩)
      rw [← htot]
      exact Nat.lt_of_not_le (fun q => c49 (nI_le (b := 20000) q (by decide)))
  · have hi1 : i < n := jn_nle (show ¬ nI n ≤ nI i from c16) (by omega) (by omega)
    have hz2 := hz3
    have hp : 32 ^ i * 32 ≤ 1048576 := by
      rw [← Nat.pow_succ]
      exact Nat.le_trans (Nat.pow_le_pow_right (by decide) (show i + 1 ≤ 4 by omega)) (by decide)
    refine jr_iload rfl rfl ?_
    refine jr_aload rfl rfl ?_
    refine jr_iload rfl rfl ?_
    rw [hx5]
    refine jr_cv1 (mc' := 0) (ms' := 0) rfl jm_Rep_mostOf_n jm_Rep_mostOf_f rfl rfl rfl rfl rfl rfl rfl (Nat.zero_le _) (Nat.zero_le _) ?_
    refine ev_Rep_mostOf (hm := hm) (b := b) (m := (w + i) % jz_nm hm b) hR hw.2.2.1.1 ft5 ?_
    rw [ft2]
    refine jr_aload rfl rfl ?_
    refine jr_iload rfl rfl ?_
    skip
    refine jr_cv1 (mc' := 0) (ms' := 0) rfl jm_Rep_leastOf_n jm_Rep_leastOf_f rfl rfl rfl rfl rfl rfl rfl (Nat.zero_le _) (Nat.zero_le _) ?_
    refine ev_Rep_leastOf (hm := hm) (b := b) (m := (w + i) % jz_nm hm b) hR hw.2.2.1.1 ft5 ?_
    rw [ft1]
    refine jr_isub rfl ?_
    refine jr_ic rfl ?_
    refine jr_iadd rfl ?_
    refine jr_imul rfl ?_
    rw [show nI z * (nI (jl_t hm b (w + i)) - nI (jl_f hm b (w + i)) + 1) = nI (z * jl_w hm b (w + i)) from jn_mul rfl (jn_add (jn_sub rfl rfl ft3) (jn_c 1))]
    refine jr_ist4 rfl rfl ?_
    refine jr_iload rfl rfl ?_
    refine jr_iload rfl rfl ?_
    refine jr_iadd rfl ?_
    rw [show nI A + nI (z * jl_w hm b (w + i)) = nI (A + z * jl_w hm b (w + i)) from jn_add rfl rfl]
    refine jr_ist3 rfl rfl ?_
    refine jr_iload rfl rfl ?_
    refine jr_ic rfl ?_
    refine jr_iadd rfl ?_
    refine jr_aload rfl rfl ?_
    refine jr_getI rfl rfl ?_
    rw [jn_S, show jh_I h 7 r 0 = nI (jz_nm hm b) from hR.1.trans hw.2.2.1.1.1]
    refine jr_icmp_ge rfl (fun c38 => ?_) (fun c38 => ?_)
    · refine jr_ic rfl ?_
      refine jr_ist5 rfl rfl ?_
      refine jr_iinc6 rfl rfl ?_
      refine jr_goto rfl ?_
      rw [jn_S]
      exact lp_spent (i + 1) (A + z * jl_w hm b (w + i)) (z * jl_w hm b (w + i)) _ hw hR h0 h9 hn4 hw3 hlaw (by rw [jq_nx h0]; unfold jw_nx1; rw [if_neg (by have := jn_le (show nI (jz_nm hm b) ≤ nI ((w + i) % jz_nm hm b + 1) from c38) (by omega) (by omega); omega)]; rfl) (by omega) (by omega) (by rw [Nat.pow_succ]; exact hz2) (by rw [← htot, show n - i = (n - (i + 1)) + 1 by omega, jq_T, Nat.mul_add (jl_w hm b (w + i)) 1, Nat.mul_one, Nat.mul_add z, ← Nat.mul_assoc z, Nat.add_assoc]; rfl) k
    · refine jr_iload rfl rfl ?_
      refine jr_ic rfl ?_
      refine jr_iadd rfl ?_
      refine jr_goto rfl ?_
      refine jr_ist5 rfl rfl ?_
      refine jr_iinc6 rfl rfl ?_
      refine jr_goto rfl ?_
      rw [jn_S, jn_S]
      exact lp_spent (i + 1) (A + z * jl_w hm b (w + i)) (z * jl_w hm b (w + i)) _ hw hR h0 h9 hn4 hw3 hlaw (by rw [jq_nx h0]; unfold jw_nx1; rw [if_pos (jn_nle (show ¬ nI (jz_nm hm b) ≤ nI ((w + i) % jz_nm hm b + 1) from c38) (by omega) (by omega))]) (by omega) (by omega) (by rw [Nat.pow_succ]; exact hz2) (by rw [← htot, show n - i = (n - (i + 1)) + 1 by omega, jq_T, Nat.mul_add (jl_w hm b (w + i)) 1, Nat.mul_one, Nat.mul_add z, ← Nat.mul_assoc z, Nat.add_assoc]; rfl) k
termination_by n - i
decreasing_by all_goals omega

set_option maxHeartbeats 800000 in
set_option maxRecDepth 100000 in
theorem ev_spent {d : Nat} {h : jx_H} {Q : Option jx_V → jx_H → Prop} {hm : jx_H} {b r n w : Nat} (hw : jz_W hm b) (hR : jy_R h r hm b) (h0 : 0 < jz_nm hm b) (h9 : jh_I h 3 0 9 = nI n) (hn4 : n ≤ 4) (hw3 : w ≤ 400) (k : ∀ v : Int32, (v = 0 ∨ v = 1 ∧ jC hm b 18 5 = 0 ∧ 20000 < jq_T (jl_w hm b) n w) → Q (some (jv_i v)) h)  : jx_Ev jm_For_isSpentAtOnce (d + 3) 0 0 false 0 [jv_r 3 0, jv_r 7 r, jv_i (nI (w % jz_nm hm b))] h Q := by
  show jx_W (jm_For_isSpentAtOnce, d + 3, 0, 0, false, 0, _) Q 0 0 0 [some (jv_r 3 0), some (jv_r 7 r), some (jv_i (nI (w % jz_nm hm b))), none, none, none, none] [] _
  refine jr_aload rfl rfl ?_
  refine jr_cv0 (mc' := 0) (ms' := 0) rfl jm_Rep_hasLaw_n jm_Rep_hasLaw_f rfl rfl rfl rfl rfl rfl rfl (Nat.zero_le _) (Nat.zero_le _) ?_
  refine ev_Rep_hasLaw (hm := hm) (b := b) (hR.2.2.2.2.2.2.2.2.2.2.2.2 5 (by decide)) ?_
  refine jr_if_eq rfl (fun c2 => ?_) (fun c2 => ?_)
  · refine jr_ic rfl ?_
    refine jr_ist3 rfl rfl ?_
    refine jr_ic rfl ?_
    refine jr_ist4 rfl rfl ?_
    refine jr_iload rfl rfl ?_
    refine jr_ist5 rfl rfl ?_
    refine jr_ic rfl ?_
    refine jr_ist6 rfl rfl ?_
    have hlaw : jC hm b 18 5 = 0 := Decidable.byContradiction fun z => absurd (show (if jC hm b 18 5 = 0 then (0 : Int32) else 1) = 0 from c2) (by rw [if_neg z]; decide)
    exact lp_spent 0 0 1 _ hw hR h0 h9 hn4 hw3 hlaw rfl (Nat.zero_le _) (Nat.zero_le _) (Nat.le_refl _) (by rw [Nat.one_mul, Nat.zero_add]; rfl) k
  · refine jr_ic rfl ?_
    refine jr_zret rfl rfl rfl (Nat.zero_le _) (Nat.zero_le _) ?_
    exact k 0 (Or.inl rfl)

