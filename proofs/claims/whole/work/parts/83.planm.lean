set_option maxHeartbeats 800000 in
set_option maxRecDepth 100000 in
theorem lp_MD_bringPl {d n0 : Nat} {Q : Option jx_V → jx_H → Prop} {h : jx_H} {S : Nat → Nat → Int32} {a : jw_A} {dp : Nat} (a2 : jw_A) (j : Nat) (hd : dp < 4) (hj : j ≤ 37) (hH : ∀ q, q < 37 → S 110 (37 * dp + q) = a q) (h1 : ∀ q, q < j → a2 q = a q) (h2 : ∀ q, 37 ≤ q → a2 q = a q) (hQ : Q none (jS (ju_I h 98 0 a) S))  : jx_W (jm_MD_bringPlace, d, 0, 0, false, 1, n0) Q 0 0 2 [some (jv_r 11 0), some (jv_i (nI dp)), some (jv_i (nI j))] [] (jS (ju_I h 98 0 a2) S) := by
  refine jr_iload rfl rfl ?_
  refine jr_ic rfl ?_
  refine jr_icmp_ge rfl (fun c4 => ?_) (fun c4 => ?_)
  · refine jr_vret rfl rfl (Nat.zero_le _) (Nat.zero_le _) ?_
    have hx1 : 37 ≤ j := jn_le (show nI 37 ≤ nI j from c4) (by omega) (by omega)
    have e : a2 = a := by
      funext q
      rcases Nat.lt_or_ge q 37 with hq | hq
      · exact h1 q (by omega)
      · exact h2 q hq
    rw [e]
    exact hQ
  · have hl1 : j < 37 := jn_nle (show ¬ nI 37 ≤ nI j from c4) (by omega) (by omega)
    refine jr_aload rfl rfl ?_
    refine jr_getR rfl rfl rfl rfl (Or.inl rfl) ?_
    refine jr_iload rfl rfl ?_
    refine jr_aload rfl rfl ?_
    refine jr_getR rfl rfl rfl rfl (Or.inl rfl) ?_
    refine jr_ic rfl ?_
    refine jr_iload rfl rfl ?_
    refine jr_imul rfl ?_
    refine jr_iload rfl rfl ?_
    refine jr_iadd rfl ?_
    refine jr_iald (len := 148) rfl rfl (jn_add (jn_mul (show _ = nI 37 from rfl) rfl) rfl) (by omega) ?_
    refine jr_iast (len := 337) rfl rfl rfl (by omega) ?_
    refine jr_iinc2 rfl rfl ?_
    refine jr_goto rfl ?_
    simp only [jS_98, jS_r98]
    rw [jn_S]
    refine lp_MD_bringPl _ (j + 1) hd (by omega) hH (fun q hq => ?_) (fun q hq => (jg_un (by omega)).trans (h2 q hq)) hQ
    show upd a2 j (S 110 (37 * dp + j)) q = _
    by_cases e : q = j
    · rw [e, jg_us]; exact hH j hl1
    · rw [jg_un e]; exact h1 q (by omega)
termination_by 37 - j
decreasing_by all_goals omega

set_option maxHeartbeats 800000 in
set_option maxRecDepth 100000 in
theorem eS_bringPl {d : Nat} {h : jx_H} {Q : Option jx_V → jx_H → Prop} {S : Nat → Nat → Int32} {a a2 : jw_A} {dp : Nat} (hd : dp < 4) (hH : ∀ q, q < 37 → S 110 (37 * dp + q) = a q) (h2 : ∀ q, 37 ≤ q → a2 q = a q) (hQ : Q none (jS (ju_I h 98 0 a) S))  : jx_Ev jm_MD_bringPlace (d) 0 0 false 1 [jv_r 11 0, jv_i (nI dp)] (jS (ju_I h 98 0 a2) S) Q := by
  show jx_W (jm_MD_bringPlace, d, 0, 0, false, 1, _) Q 0 0 0 [some (jv_r 11 0), some (jv_i (nI dp)), none] [] _
  refine jr_ic rfl ?_
  refine jr_ist2 rfl rfl ?_
  exact lp_MD_bringPl a2 0 hd (by omega) hH (fun q hq => absurd hq (by omega)) h2 hQ

set_option maxHeartbeats 800000 in
set_option maxRecDepth 100000 in
theorem lp_kp2 {d n0 : Nat} {Q : Option jx_V → jx_H → Prop} {hm : jx_H} {b dp : Nat} {S0 : Nat → Nat → Int32} (S : Nat → Nat → Int32) (l : Nat) (hd : dp < 4) (hl : l ≤ 32) (hS : jz_S hm S) (h100 : ∀ q, q < 32 → S 100 q = jw_mayb hm b q) (f0 : ∀ x, x ≠ 11 → x ≠ 97 → x ≠ 100 → x ≠ 110 → x ≠ 111 → S x = S0 x) (f1 : ∀ q, q < 37 → S 110 (37 * dp + q) = jA hm q) (f2 : ∀ i, i < 37 * dp → S 110 i = S0 110 i) (g1 : ∀ q, q < l → S 111 (32 * dp + q) = jw_mayb hm b q) (g2 : ∀ i, i < 32 * dp → S 111 i = S0 111 i) (k : ∀ S' : Nat → Nat → Int32, jz_S hm S' → (∀ x, x ≠ 11 → x ≠ 97 → x ≠ 100 → x ≠ 107 → x ≠ 110 → x ≠ 111 → S' x = S0 x) → (∀ q, q < 37 → S' 110 (37 * dp + q) = jA hm q) → (∀ i, i < 37 * dp → S' 110 i = S0 110 i) → (∀ q, q < 32 → S' 111 (32 * dp + q) = jw_mayb hm b q) → (∀ i, i < 32 * dp → S' 111 i = S0 111 i) → S' 107 dp = -1 → (∀ j, j ≠ dp → S' 107 j = S0 107 j) → Q none (jS hm S'))  : jx_W (jm_MD_keepPlace, d + 4, 0, 0, false, 1, n0) Q 0 0 23 [some (jv_r 11 0), some (jv_i (nI dp)), some (jv_i (nI l))] [] (jS hm S) := by
  refine jr_iload rfl rfl ?_
  refine jr_ic rfl ?_
  refine jr_icmp_gt rfl (fun c25 => ?_) (fun c25 => ?_)
  · refine jr_aload rfl rfl ?_
    refine jr_getR rfl rfl rfl rfl (Or.inl rfl) ?_
    refine jr_iload rfl rfl ?_
    refine jr_ic rfl ?_
    refine jr_iast (len := 4) rfl rfl rfl (by omega) ?_
    simp only [jS_107, jS_r107]
    refine jr_vret rfl rfl (Nat.zero_le _) (Nat.zero_le _) ?_
    have hx1 : 31 < l := jn_lt (show nI 31 < nI l from c25) (by omega) (by omega)
    refine k _ (fun f hf => hS f hf) (fun x z1 z2 z3 z4 z5 z6 => (if_neg z4).trans (f0 x z1 z2 z3 z5 z6)) f1 f2 (fun q hq => g1 q (by omega)) g2 (jg_us _ _ _) (fun j hj => (jg_un hj).trans (congrFun (f0 107 (by decide) (by decide) (by decide) (by decide) (by decide)) j))
  · have hl1 : l ≤ 31 := jn_nlt (show ¬ nI 31 < nI l from c25) (by omega) (by omega)
    refine jr_aload rfl rfl ?_
    refine jr_getR rfl rfl rfl rfl (Or.inl rfl) ?_
    refine jr_ic rfl ?_
    refine jr_iload rfl rfl ?_
    refine jr_imul rfl ?_
    refine jr_iload rfl rfl ?_
    refine jr_iadd rfl ?_
    refine jr_aload rfl rfl ?_
    refine jr_getR rfl rfl rfl rfl (Or.inl rfl) ?_
    refine jr_iload rfl rfl ?_
    refine jr_zald (len := 32) rfl rfl rfl (by omega) ?_
    rw [show jh_I (jS hm S) 100 0 l = jw_mayb hm b l from h100 l (by omega)]
    refine jr_zast (len := 128) rfl rfl (jn_add (jn_mul (show _ = nI 32 from rfl) rfl) rfl) (by omega) ?_
    refine jr_iinc2 rfl rfl ?_
    refine jr_goto rfl ?_
    simp only [jS_111, jS_r111]
    rw [jn_S]
    refine lp_kp2 _ (l + 1) hd (by omega) (fun f hf => hS f hf) (fun q hq => h100 q hq) (fun x z1 z2 z3 z4 z5 => (if_neg z5).trans (f0 x z1 z2 z3 z4 z5)) f1 f2 (fun q hq => ?_) (fun i hi => ?_) k
    · show upd (S 111) (32 * dp + l) _ (32 * dp + q) = _
      by_cases e : q = l
      · rw [e, jg_us]
        rcases jw_mayb_01 (h := hm) (b := b) (l := l) with z | z <;> rw [z] <;> rfl
      · rw [jg_un (by omega)]; exact g1 q (by omega)
    · show upd (S 111) (32 * dp + l) _ i = _
      rw [jg_un (by omega)]; exact g2 i hi
termination_by 32 - l
decreasing_by all_goals omega

set_option maxHeartbeats 800000 in
set_option maxRecDepth 100000 in
theorem lp_kp1 {d n0 : Nat} {Q : Option jx_V → jx_H → Prop} {hm : jx_H} {b dp : Nat} {S0 : Nat → Nat → Int32} (S : Nat → Nat → Int32) (j : Nat) (hw : jz_W hm b) (hmo : ¬ jC hm b 0 0 = 0) (hd : dp < 4) (hj : j ≤ 37) (hS : jz_S hm S) (f0 : ∀ x, x ≠ 110 → S x = S0 x) (f1 : ∀ q, q < j → S 110 (37 * dp + q) = jA hm q) (f2 : ∀ i, i < 37 * dp → S 110 i = S0 110 i) (k : ∀ S' : Nat → Nat → Int32, jz_S hm S' → (∀ x, x ≠ 11 → x ≠ 97 → x ≠ 100 → x ≠ 107 → x ≠ 110 → x ≠ 111 → S' x = S0 x) → (∀ q, q < 37 → S' 110 (37 * dp + q) = jA hm q) → (∀ i, i < 37 * dp → S' 110 i = S0 110 i) → (∀ q, q < 32 → S' 111 (32 * dp + q) = jw_mayb hm b q) → (∀ i, i < 32 * dp → S' 111 i = S0 111 i) → S' 107 dp = -1 → (∀ j, j ≠ dp → S' 107 j = S0 107 j) → Q none (jS hm S'))  : jx_W (jm_MD_keepPlace, d + 5, 0, 0, false, 1, n0) Q 0 0 2 [some (jv_r 11 0), some (jv_i (nI dp)), some (jv_i (nI j))] [] (jS hm S) := by
  refine jr_iload rfl rfl ?_
  refine jr_ic rfl ?_
  refine jr_icmp_ge rfl (fun c4 => ?_) (fun c4 => ?_)
  · refine jr_aload rfl rfl ?_
    refine jr_cv0 (mc' := 0) (ms' := 0) rfl jm_MD_layMay_n jm_MD_layMay_f rfl rfl rfl rfl rfl rfl rfl (Nat.zero_le _) (Nat.zero_le _) ?_
    refine eS_layMay (b := b) hw hS hmo (fun S1 hS1 hf1 hM1 => ?_)
    refine jr_ic rfl ?_
    refine jr_ist2 rfl rfl ?_
    have hx1 : 37 ≤ j := jn_le (show nI 37 ≤ nI j from c4) (by omega) (by omega)
    have e110 := hf1 110 (by decide) (by decide) (by decide)
    have e111 := hf1 111 (by decide) (by decide) (by decide)
    exact lp_kp2 (S0 := S0) S1 0 hd (by omega) hS1 hM1 (fun x z1 z2 z3 z4 z5 => (hf1 x z1 z2 z3).trans (f0 x z4)) (fun q hq => by rw [e110]; exact f1 q (by omega)) (fun i hi => by rw [e110]; exact f2 i hi) (fun q hq => absurd hq (by omega)) (fun i hi => by rw [e111]; exact congrFun (f0 111 (by decide)) i) k
  · have hl1 : j < 37 := jn_nle (show ¬ nI 37 ≤ nI j from c4) (by omega) (by omega)
    refine jr_aload rfl rfl ?_
    refine jr_getR rfl rfl rfl rfl (Or.inl rfl) ?_
    refine jr_ic rfl ?_
    refine jr_iload rfl rfl ?_
    refine jr_imul rfl ?_
    refine jr_iload rfl rfl ?_
    refine jr_iadd rfl ?_
    refine jr_aload rfl rfl ?_
    refine jr_getR rfl rfl rfl rfl (Or.inl rfl) ?_
    refine jr_iload rfl rfl ?_
    refine jr_iald (len := 337) rfl rfl rfl (by omega) ?_
    refine jr_iast (len := 148) rfl rfl (jn_add (jn_mul (show _ = nI 37 from rfl) rfl) rfl) (by omega) ?_
    refine jr_iinc2 rfl rfl ?_
    refine jr_goto rfl ?_
    simp only [jS_110, jS_r110]
    rw [jn_S]
    refine lp_kp1 _ (j + 1) hw hmo hd (by omega) (fun f hf => hS f hf) (fun x z => (if_neg z).trans (f0 x z)) (fun q hq => ?_) (fun i hi => ?_) k
    · show upd (S 110) (37 * dp + j) _ (37 * dp + q) = _
      by_cases e : q = j
      · rw [e, jg_us]; rfl
      · rw [jg_un (by omega)]; exact f1 q (by omega)
    · show upd (S 110) (37 * dp + j) _ i = _
      rw [jg_un (by omega)]; exact f2 i hi
termination_by 37 - j
decreasing_by all_goals omega

set_option maxHeartbeats 800000 in
set_option maxRecDepth 100000 in
theorem eS_keepPl {d : Nat} {Q : Option jx_V → jx_H → Prop} {hm : jx_H} {b dp : Nat} {S0 : Nat → Nat → Int32} (hw : jz_W hm b) (hmo : ¬ jC hm b 0 0 = 0) (hd : dp < 4) (hS : jz_S hm S0) (k : ∀ S' : Nat → Nat → Int32, jz_S hm S' → (∀ x, x ≠ 11 → x ≠ 97 → x ≠ 100 → x ≠ 107 → x ≠ 110 → x ≠ 111 → S' x = S0 x) → (∀ q, q < 37 → S' 110 (37 * dp + q) = jA hm q) → (∀ i, i < 37 * dp → S' 110 i = S0 110 i) → (∀ q, q < 32 → S' 111 (32 * dp + q) = jw_mayb hm b q) → (∀ i, i < 32 * dp → S' 111 i = S0 111 i) → S' 107 dp = -1 → (∀ j, j ≠ dp → S' 107 j = S0 107 j) → Q none (jS hm S'))  : jx_Ev jm_MD_keepPlace (d + 5) 0 0 false 1 [jv_r 11 0, jv_i (nI dp)] (jS hm S0) Q := by
  show jx_W (jm_MD_keepPlace, d + 5, 0, 0, false, 1, _) Q 0 0 0 [some (jv_r 11 0), some (jv_i (nI dp)), none] [] _
  refine jr_ic rfl ?_
  refine jr_ist2 rfl rfl ?_
  exact lp_kp1 S0 0 hw hmo hd (by omega) hS (fun _ _ => rfl) (fun q hq => absurd hq (by omega)) (fun _ _ => rfl) k

def jq_M (S : Nat → Nat → Int32) (n : Nat) (σ : jq_S) (k : Nat) (best some' : Int32) : Prop := σ.1 = k ∧ k ≤ 20000 ∧ (σ.2 = none ∧ some' = 0 ∨ ∃ v R, σ.2 = some (v, R) ∧ some' = 1 ∧ best = v ∧ ∀ j, j < n → S 108 j = R j)
theorem jq_M_e {S S' : Nat → Nat → Int32} {n k : Nat} {σ : jq_S} {best some' : Int32} (h : jq_M S n σ k best some') (e : S' 108 = S 108) : jq_M S' n σ k best some' := by
  unfold jq_M
  rw [e]
  exact h
set_option maxHeartbeats 800000 in
set_option maxRecDepth 100000 in
theorem lp_pl33 {d n0 : Nat} {Q : Option jx_V → jx_H → Prop} {hm : jx_H} {p n k dp : Nat} {best som : Int32} {a a2 : jw_A} {S : Nat → Nat → Int32} (x7 : Option jx_V) (hd : dp < 4) (hH : ∀ q, q < 37 → S 110 (37 * dp + q) = a q) (h2 : ∀ q, 37 ≤ q → a2 q = a q) (kk : jx_W (jm_MD_plan, d + 10, 0, 0, false, 1, n0) Q 0 0 46 [some (jv_r 11 0), some (jv_i (nI p)), some (jv_i (nI n)), some (jv_i (nI k)), some (jv_i best), some (jv_i som), some (jv_i (nI dp)), x7] [] (jS (jw_h hm a) (fun x => if x = 107 then upd (S 107) dp (S 107 dp + 1) else S x)))  : jx_W (jm_MD_plan, d + 10, 0, 0, false, 1, n0) Q 0 0 33 [some (jv_r 11 0), some (jv_i (nI p)), some (jv_i (nI n)), some (jv_i (nI k)), some (jv_i best), some (jv_i som), some (jv_i (nI dp)), x7] [] (jS (ju_I hm 98 0 a2) S) := by
  refine jr_iload rfl rfl ?_
  refine jr_if_lt rfl (fun z => absurd z (nI_pos (by omega))) (fun _ => ?_)
  refine jr_aload rfl rfl ?_
  refine jr_iload rfl rfl ?_
  refine jr_cv1 (mc' := 0) (ms' := 0) rfl jm_MD_bringPlace_n jm_MD_bringPlace_f rfl rfl rfl rfl rfl rfl rfl (Nat.zero_le _) (Nat.zero_le _) ?_
  refine eS_bringPl (a := a) hd hH h2 ?_
  refine jr_aload rfl rfl ?_
  refine jr_getR rfl rfl rfl rfl (Or.inl rfl) ?_
  refine jr_iload rfl rfl ?_
  refine jr_dup2 rfl ?_
  refine jr_iald (len := 4) rfl rfl rfl (by omega) ?_
  refine jr_ic rfl ?_
  refine jr_iadd rfl ?_
  refine jr_iast (len := 4) rfl rfl rfl (by omega) ?_
  simp only [jS_107, jS_r107]
  exact kk

set_option maxHeartbeats 800000 in
set_option maxRecDepth 100000 in
theorem lp_plB {d n0 : Nat} {Q : Option jx_V → jx_H → Prop} {hm : jx_H} {p n k dp : Nat} {best som : Int32} {a : jw_A} {S0 : Nat → Nat → Int32} (S : Nat → Nat → Int32) (j : Nat) (hn : n ≤ 4) (hj : j ≤ n) (f0 : ∀ x, x ≠ 108 → S x = S0 x) (h1 : ∀ q, q < j → S 108 q = S0 107 q) (kk : ∀ S' : Nat → Nat → Int32, (∀ x, x ≠ 108 → S' x = S0 x) → (∀ q, q < n → S' 108 q = S0 107 q) → ∀ x7, jx_W (jm_MD_plan, d + 10, 0, 0, false, 1, n0) Q 0 0 33 [some (jv_r 11 0), some (jv_i (nI p)), some (jv_i (nI n)), some (jv_i (nI k)), some (jv_i best), some (jv_i som), some (jv_i (nI dp)), x7] [] (jS (jw_h hm a) S'))  : jx_W (jm_MD_plan, d + 10, 0, 0, false, 1, n0) Q 0 0 141 [some (jv_r 11 0), some (jv_i (nI p)), some (jv_i (nI n)), some (jv_i (nI k)), some (jv_i best), some (jv_i som), some (jv_i (nI dp)), some (jv_i (nI j))] [] (jS (jw_h hm a) S) := by
  refine jr_iload rfl rfl ?_
  refine jr_iload rfl rfl ?_
  refine jr_icmp_ge rfl (fun c143 => ?_) (fun c143 => ?_)
  · refine jr_goto rfl ?_
    have hj2 : j = n := by have := jn_le (show nI n ≤ nI j from c143) (by omega) (by omega); omega
    subst hj2
    exact kk S f0 h1 _
  · have hj1 : j < n := jn_nle (show ¬ nI n ≤ nI j from c143) (by omega) (by omega)
    refine jr_aload rfl rfl ?_
    refine jr_getR rfl rfl rfl rfl (Or.inl rfl) ?_
    refine jr_iload rfl rfl ?_
    refine jr_aload rfl rfl ?_
    refine jr_getR rfl rfl rfl rfl (Or.inl rfl) ?_
    refine jr_iload rfl rfl ?_
    refine jr_iald (len := 4) rfl rfl rfl (by omega) ?_
    refine jr_iast (len := 4) rfl rfl rfl (by omega) ?_
    simp only [jS_108, jS_r108]
    refine jr_iinc7 rfl rfl ?_
    refine jr_goto rfl ?_
    rw [jn_S]
    refine lp_plB _ (j + 1) hn (by omega) (fun x z => (if_neg z).trans (f0 x z)) (fun q hq => ?_) kk
    show upd (S 108) j (jh_I (jS (jw_h hm a) S) 107 0 j) q = _
    by_cases e : q = j
    · rw [e, jg_us]; exact congrFun (f0 107 (by decide)) j
    · rw [jg_un e]; exact h1 q (by omega)
termination_by n - j
decreasing_by all_goals omega

set_option maxHeartbeats 800000 in
set_option maxRecDepth 100000 in
theorem lp_pl0 {d n0 : Nat} {Q : Option jx_V → jx_H → Prop} {hm : jx_H} {b p dp n w k : Nat} {a : jw_A} {s best som : Int32} {row : Nat → Int32} {S0 S : Nat → Nat → Int32} (l : Nat) (σ : jq_S) (x7 : Option jx_V) (hB : jz_B hm b) (hmo : ¬ jC hm b 0 0 = 0) (hA : jz_A (jz_np hm b) (jz_nm hm b) a) (hw0 : a 0 = nI w) (hp : p < 5) (hdn : dp + 1 = n) (hn4 : n ≤ 4) (hwn : w + 1 ≤ 511) (hhi : ∀ q, 37 ≤ q → a q = jA hm q) (hl : l ≤ 32) (hS : jz_S hm S) (hM : jq_M S n σ k best som) (h107 : S 107 dp = nI l) (hrow : ∀ j, j < dp → S 107 j = row j) (h109 : S 109 dp = s) (h110 : ∀ q, q < 37 → S 110 (37 * dp + q) = a q) (h0 : ∀ q, q < 37 → S 110 q = jA hm q) (h111 : ∀ q, q < 32 → S 111 (32 * dp + q) = jw_mayb (jw_h hm a) b q) (f109 : ∀ j, j ≤ dp → S 109 j = S0 109 j) (f110 : ∀ i, i < 37 * dp → S 110 i = S0 110 i) (f111 : ∀ i, i < 32 * dp → S 111 i = S0 111 i) (k0 : (jq_len (jw_mayb (jw_h hm a) b) (fun l σ => jq_go hm b p 0 (dp + 1) (jw_gb (jC hm b) (jz_nd hm b) (nI l) a) (s + (jw_worth (jw_h hm a) b p (nI l) (jz_nd hm b))) (upd row dp (nI l)) σ) (32 - l) l σ) = none → ∀ S' : Nat → Nat → Int32, jz_S hm S' → Q (some (jv_i (-1000001))) (jS hm S')) (k1 : ∀ (σ' : jq_S) (S' : Nat → Nat → Int32) (k' : Nat) (best' som' : Int32) (x7 : Option jx_V), (jq_len (jw_mayb (jw_h hm a) b) (fun l σ => jq_go hm b p 0 (dp + 1) (jw_gb (jC hm b) (jz_nd hm b) (nI l) a) (s + (jw_worth (jw_h hm a) b p (nI l) (jz_nd hm b))) (upd row dp (nI l)) σ) (32 - l) l σ) = some σ' → jz_S hm S' → jq_M S' n σ' k' best' som' → (∀ j, j < dp → S' 107 j = row j) → (∀ q, q < 37 → S' 110 q = jA hm q) → (∀ j, j ≤ dp → S' 109 j = S0 109 j) → (∀ i, i < 37 * dp → S' 110 i = S0 110 i) → (∀ i, i < 32 * dp → S' 111 i = S0 111 i) → jx_W (jm_MD_plan, d + 10, 0, 0, false, 1, n0) Q 0 0 33 [some (jv_r 11 0), some (jv_i (nI p)), some (jv_i (nI n)), some (jv_i (nI k')), some (jv_i best'), some (jv_i som'), some (jv_i (nI dp + (-1))), x7] [] (jS (jw_h hm a) S'))  : jx_W (jm_MD_plan, d + 10, 0, 0, false, 1, n0) Q 0 0 46 [some (jv_r 11 0), some (jv_i (nI p)), some (jv_i (nI n)), some (jv_i (nI k)), some (jv_i best), some (jv_i som), some (jv_i (nI dp)), x7] [] (jS (jw_h hm a) S) := by
  have hk2 := hM.2.1
  refine jr_aload rfl rfl ?_
  refine jr_getR rfl rfl rfl rfl (Or.inl rfl) ?_
  refine jr_iload rfl rfl ?_
  refine jr_iald (len := 4) rfl rfl rfl (by omega) ?_
  rw [show jh_I (jS (jw_h hm a) S) 107 0 dp = nI l from h107]
  refine jr_ic rfl ?_
  refine jr_icmp_gt rfl (fun c51 => ?_) (fun c51 => ?_)
  · refine jr_aload rfl rfl ?_
    refine jr_getR rfl rfl rfl rfl (Or.inl rfl) ?_
    refine jr_iload rfl rfl ?_
    refine jr_iald (len := 4) rfl rfl rfl (by omega) ?_
    rw [show jh_I (jS (jw_h hm a) S) 107 0 dp = nI l from h107]
    refine jr_ic rfl ?_
    refine jr_icmp_le rfl (fun c78 => ?_) (fun c78 => ?_)
    · exact absurd c51 (Int32.not_lt.mpr c78)
    · refine jr_iinc6 rfl rfl ?_
      refine jr_goto rfl ?_
      have hl2 : l = 32 := by have := jn_lt (show nI 31 < nI l from c51) (by omega) (by omega); omega
      subst hl2
      exact k1 σ S k best som _ rfl hS hM hrow h0 f109 f110 f111
  · refine jr_aload rfl rfl ?_
    refine jr_getR rfl rfl rfl rfl (Or.inl rfl) ?_
    refine jr_ic rfl ?_
    refine jr_iload rfl rfl ?_
    refine jr_imul rfl ?_
    refine jr_aload rfl rfl ?_
    refine jr_getR rfl rfl rfl rfl (Or.inl rfl) ?_
    refine jr_iload rfl rfl ?_
    refine jr_iald (len := 4) rfl rfl rfl (by omega) ?_
    have hl1 : l ≤ 31 := jn_nlt (show ¬ nI 31 < nI l from c51) (by omega) (by omega)
    have hn : 32 - l = (32 - (l + 1)) + 1 := by omega
    rw [show jh_I (jS (jw_h hm a) S) 107 0 dp = nI l from h107]
    refine jr_iadd rfl ?_
    refine jr_zald (len := 128) rfl rfl (jn_add (jn_mul (show _ = nI 32 from rfl) rfl) rfl) (by omega) ?_
    rw [show jh_I (jS (jw_h hm a) S) 111 0 (32 * dp + l) = jw_mayb (jw_h hm a) b l from h111 l (by omega)]
    refine jr_if_ne rfl (fun c63 => ?_) (fun c63 => ?_)
    · refine jr_aload rfl rfl ?_
      refine jr_getR rfl rfl rfl rfl (Or.inl rfl) ?_
      refine jr_iload rfl rfl ?_
      refine jr_iald (len := 4) rfl rfl rfl (by omega) ?_
      rw [show jh_I (jS (jw_h hm a) S) 107 0 dp = nI l from h107]
      refine jr_ic rfl ?_
      refine jr_icmp_le rfl (fun c78 => ?_) (fun c78 => ?_)
      · have hM1 : ¬ jw_mayb (jw_h hm a) b l = 0 := c63
        refine jr_iinc3 rfl rfl ?_
        rw [jn_S]
        refine jr_iload rfl rfl ?_
        refine jr_ic rfl ?_
        refine jr_icmp_le rfl (fun c84 => ?_) (fun c84 => ?_)
        · have hlk : k + 1 ≤ 20000 := jn_le (show nI (k + 1) ≤ nI 20000 from c84) (by omega) (by decide)
          refine jr_aload rfl rfl ?_
          refine jr_getR rfl rfl rfl rfl (Or.inl rfl) ?_
          refine jr_iload rfl rfl ?_
          refine jr_ic rfl ?_
          refine jr_iadd rfl ?_
          refine jr_aload rfl rfl ?_
          refine jr_getR rfl rfl rfl rfl (Or.inl rfl) ?_
          refine jr_iload rfl rfl ?_
          refine jr_iald (len := 5) rfl rfl rfl (by omega) ?_
          rw [show jh_I (jS (jw_h hm a) S) 109 0 dp = s from h109]
          refine jr_aload rfl rfl ?_
          refine jr_iload rfl rfl ?_
          refine jr_aload rfl rfl ?_
          refine jr_getR rfl rfl rfl rfl (Or.inl rfl) ?_
          refine jr_iload rfl rfl ?_
          refine jr_iald (len := 4) rfl rfl rfl (by omega) ?_
          rw [show jh_I (jS (jw_h hm a) S) 107 0 dp = nI l from h107]
          refine jr_cv2 (mc' := 0) (ms' := 0) rfl jm_MD_worthOf_n jm_MD_worthOf_f rfl rfl rfl rfl rfl rfl rfl (Nat.zero_le _) (Nat.zero_le _) ?_
          refine eS_worthOf (b := b) (p := p) (l := nI l) (jz_Wa hB hA) hS hmo hp (fun S1 hS1 f1 => ?_)
          rw [show jz_nd (jw_h hm a) b = jz_nd hm b from rfl]
          have e107 := f1 107 (by decide) (by decide)
          have e108 := f1 108 (by decide) (by decide)
          have e109 := f1 109 (by decide) (by decide)
          have e110 := f1 110 (by decide) (by decide)
          have e111 := f1 111 (by decide) (by decide)
          refine jr_iadd rfl ?_
          refine jr_iast (len := 5) rfl rfl (jn_add rfl (show _ = nI 1 from rfl)) (by omega) ?_
          simp only [jS_109, jS_r109]
          refine jr_iload rfl rfl ?_
          refine jr_ic rfl ?_
          refine jr_iadd rfl ?_
          refine jr_iload rfl rfl ?_
          rw [jn_S]
          refine jr_icmp_ge rfl (fun _ => ?_) (fun z => absurd (nI_le (a := n) (b := dp + 1) (by omega) (by omega)) z)
          refine jr_iload rfl rfl ?_
          refine jr_if_eq rfl (fun c125 => ?_) (fun c125 => ?_)
          · refine jr_ic rfl ?_
            refine jr_ist5 rfl rfl ?_
            refine jr_aload rfl rfl ?_
            refine jr_getR rfl rfl rfl rfl (Or.inl rfl) ?_
            refine jr_iload rfl rfl ?_
            refine jr_iald (len := 5) rfl rfl rfl (by omega) ?_
            rw [show jh_I (jS (jw_h hm a) (fun x => if x = 109 then upd (S1 109) (dp + 1) (s + (jw_worth (jw_h hm a) b p (nI l) (jz_nd hm b))) else S1 x)) 109 0 n = s + (jw_worth (jw_h hm a) b p (nI l) (jz_nd hm b)) from by rw [show n = dp + 1 by omega]; exact jg_us _ _ _]
            refine jr_ist4 rfl rfl ?_
            refine jr_ic rfl ?_
            refine jr_ist7 rfl rfl ?_
            have hsm : σ.2 = none := by
              rcases hM.2.2 with ⟨z, -⟩ | ⟨v, R, -, z, -⟩
              · exact z
              · exact absurd (z.symm.trans c125) (by decide)
            refine lp_plB (S0 := (fun x => if x = 109 then upd (S1 109) (dp + 1) (s + (jw_worth (jw_h hm a) b p (nI l) (jz_nd hm b))) else S1 x)) _ 0 hn4 (by omega) (fun _ _ => rfl) (fun q hq => absurd hq (by omega)) (fun S9 g9 g108 x9 => ?_)
            refine lp_pl33 (a := a) (a2 := a) _ (by omega) (fun q hq => ?_) (fun _ _ => rfl) ?_
            · show S9 110 _ = _; rw [g9 110 (by decide)]; show S1 110 _ = _; rw [e110]; exact h110 q hq
            refine lp_pl0 (S0 := S0) (row := row) (s := s) (l + 1) (k + 1, some (s + (jw_worth (jw_h hm a) b p (nI l) (jz_nd hm b)), upd row dp (nI l))) _ hB hmo hA hw0 hp hdn hn4 hwn hhi (by omega) ?_ ?_ ?_ (fun j hj => ?_) ?_ (fun q hq => ?_) (fun q hq => ?_) (fun q hq => ?_) (fun j hj => ?_) (fun i hi => ?_) (fun i hi => ?_) (fun z => k0 ?_) (fun σ' S' k' best' som' x7' z => k1 σ' S' k' best' som' x7' ?_)
            · intro f hf; show S9 11 f = _; rw [g9 11 (by decide)]; exact hS1 f hf
            · refine ⟨rfl, hlk, Or.inr ⟨_, _, rfl, rfl, ?_, fun j hj => ?_⟩⟩
              · rfl
              · show S9 108 j = _
                rw [g108 j hj]
                show S1 107 j = _
                rw [e107]
                by_cases e : j = dp
                · rw [e, jg_us]; exact h107
                · rw [jg_un e]; exact hrow j (by omega)
            · show upd (S9 107) dp (S9 107 dp + 1) dp = _
              rw [jg_us]; rw [g9 107 (by decide)]; show S1 107 dp + 1 = _; rw [e107, h107, jn_S]
            · show upd (S9 107) dp _ j = _
              rw [jg_un (by omega)]; rw [g9 107 (by decide)]; show S1 107 j = _; rw [e107]; exact hrow j hj
            · show S9 109 dp = _; rw [g9 109 (by decide)]; show upd (S1 109) (dp + 1) _ dp = _
              rw [jg_un (by omega), e109]; exact h109
            · show S9 110 (37 * dp + q) = _; rw [g9 110 (by decide)]; show S1 110 (37 * dp + q) = _; rw [e110]; exact h110 q hq
            · show S9 110 q = _; rw [g9 110 (by decide)]; show S1 110 q = _; rw [e110]; exact h0 q hq
            · show S9 111 (32 * dp + q) = _; rw [g9 111 (by decide)]; show S1 111 (32 * dp + q) = _; rw [e111]; exact h111 q hq
            · show S9 109 j = _; rw [g9 109 (by decide)]; show upd (S1 109) (dp + 1) _ j = _
              rw [jg_un (by omega), e109]; exact f109 j hj
            · show S9 110 i = _; rw [g9 110 (by decide)]; show S1 110 i = _; rw [e110]; exact f110 i hi
            · show S9 111 i = _; rw [g9 111 (by decide)]; show S1 111 i = _; rw [e111]; exact f111 i hi
            · rw [hn, jq_len, if_neg hM1, if_neg (by rw [hM.1]; omega), show jq_go hm b p 0 (dp + 1) (jw_gb (jC hm b) (jz_nd hm b) (nI l) a) (s + (jw_worth (jw_h hm a) b p (nI l) (jz_nd hm b))) (upd row dp (nI l)) (σ.1 + 1, σ.2) = some (k + 1, some (s + (jw_worth (jw_h hm a) b p (nI l) (jz_nd hm b)), upd row dp (nI l))) from by rw [hsm, hM.1]; rfl]; exact z
            · rw [hn, jq_len, if_neg hM1, if_neg (by rw [hM.1]; omega), show jq_go hm b p 0 (dp + 1) (jw_gb (jC hm b) (jz_nd hm b) (nI l) a) (s + (jw_worth (jw_h hm a) b p (nI l) (jz_nd hm b))) (upd row dp (nI l)) (σ.1 + 1, σ.2) = some (k + 1, some (s + (jw_worth (jw_h hm a) b p (nI l) (jz_nd hm b)), upd row dp (nI l))) from by rw [hsm, hM.1]; rfl]; exact z
          · refine jr_aload rfl rfl ?_
            refine jr_getR rfl rfl rfl rfl (Or.inl rfl) ?_
            refine jr_iload rfl rfl ?_
            refine jr_iald (len := 5) rfl rfl rfl (by omega) ?_
            refine jr_iload rfl rfl ?_
            rw [show jh_I (jS (jw_h hm a) (fun x => if x = 109 then upd (S1 109) (dp + 1) (s + (jw_worth (jw_h hm a) b p (nI l) (jz_nd hm b))) else S1 x)) 109 0 n = s + (jw_worth (jw_h hm a) b p (nI l) (jz_nd hm b)) from by rw [show n = dp + 1 by omega]; exact jg_us _ _ _]
            refine jr_icmp_le rfl (fun c131 => ?_) (fun c131 => ?_)
            · obtain ⟨v1, R1, hsm, y1, y2, y3⟩ : ∃ v R, σ.2 = some (v, R) ∧ som = 1 ∧ best = v ∧ ∀ j, j < n → S 108 j = R j := by
                rcases hM.2.2 with ⟨-, z⟩ | z
                · exact absurd z c125
                · exact z
              have hlt : ¬ v1 < s + (jw_worth (jw_h hm a) b p (nI l) (jz_nd hm b)) := Int32.not_lt.mpr (y2 ▸ c131)
              refine lp_pl33 (a := a) (a2 := a) _ (by omega) (fun q hq => ?_) (fun _ _ => rfl) ?_
              · show S1 110 _ = _; rw [e110]; exact h110 q hq
              refine lp_pl0 (S0 := S0) (row := row) (s := s) (l + 1) (k + 1, some (v1, R1)) _ hB hmo hA hw0 hp hdn hn4 hwn hhi (by omega) ?_ ?_ ?_ (fun j hj => ?_) ?_ (fun q hq => ?_) (fun q hq => ?_) (fun q hq => ?_) (fun j hj => ?_) (fun i hi => ?_) (fun i hi => ?_) (fun z => k0 ?_) (fun σ' S' k' best' som' x7' z => k1 σ' S' k' best' som' x7' ?_)
              · intro f hf; show S1 11 f = _; exact hS1 f hf
              · refine ⟨rfl, hlk, Or.inr ⟨v1, R1, rfl, y1, y2, fun j hj => ?_⟩⟩
                show S1 108 j = _
                rw [e108]; exact y3 j hj
              · show upd (S1 107) dp (S1 107 dp + 1) dp = _
                rw [jg_us]; show S1 107 dp + 1 = _; rw [e107, h107, jn_S]
              · show upd (S1 107) dp _ j = _
                rw [jg_un (by omega)]; show S1 107 j = _; rw [e107]; exact hrow j hj
              · show upd (S1 109) (dp + 1) _ dp = _
                rw [jg_un (by omega), e109]; exact h109
              · show S1 110 (37 * dp + q) = _; rw [e110]; exact h110 q hq
              · show S1 110 q = _; rw [e110]; exact h0 q hq
              · show S1 111 (32 * dp + q) = _; rw [e111]; exact h111 q hq
              · show upd (S1 109) (dp + 1) _ j = _
                rw [jg_un (by omega), e109]; exact f109 j hj
              · show S1 110 i = _; rw [e110]; exact f110 i hi
              · show S1 111 i = _; rw [e111]; exact f111 i hi
              · rw [hn, jq_len, if_neg hM1, if_neg (by rw [hM.1]; omega), show jq_go hm b p 0 (dp + 1) (jw_gb (jC hm b) (jz_nd hm b) (nI l) a) (s + (jw_worth (jw_h hm a) b p (nI l) (jz_nd hm b))) (upd row dp (nI l)) (σ.1 + 1, σ.2) = some (k + 1, some (v1, R1)) from by rw [hsm, hM.1]; exact congrArg some (if_neg hlt)]; exact z
              · rw [hn, jq_len, if_neg hM1, if_neg (by rw [hM.1]; omega), show jq_go hm b p 0 (dp + 1) (jw_gb (jC hm b) (jz_nd hm b) (nI l) a) (s + (jw_worth (jw_h hm a) b p (nI l) (jz_nd hm b))) (upd row dp (nI l)) (σ.1 + 1, σ.2) = some (k + 1, some (v1, R1)) from by rw [hsm, hM.1]; exact congrArg some (if_neg hlt)]; exact z
            · refine jr_ic rfl ?_
              refine jr_ist5 rfl rfl ?_
              refine jr_aload rfl rfl ?_
              refine jr_getR rfl rfl rfl rfl (Or.inl rfl) ?_
              refine jr_iload rfl rfl ?_
              refine jr_iald (len := 5) rfl rfl rfl (by omega) ?_
              rw [show jh_I (jS (jw_h hm a) (fun x => if x = 109 then upd (S1 109) (dp + 1) (s + (jw_worth (jw_h hm a) b p (nI l) (jz_nd hm b))) else S1 x)) 109 0 n = s + (jw_worth (jw_h hm a) b p (nI l) (jz_nd hm b)) from by rw [show n = dp + 1 by omega]; exact jg_us _ _ _]
              refine jr_ist4 rfl rfl ?_
              refine jr_ic rfl ?_
              refine jr_ist7 rfl rfl ?_
              obtain ⟨v1, R1, hsm, y1, y2, y3⟩ : ∃ v R, σ.2 = some (v, R) ∧ som = 1 ∧ best = v ∧ ∀ j, j < n → S 108 j = R j := by
                rcases hM.2.2 with ⟨-, z⟩ | z
                · exact absurd z c125
                · exact z
              have hlt : v1 < s + (jw_worth (jw_h hm a) b p (nI l) (jz_nd hm b)) := Int32.not_le.mp (y2 ▸ c131)
              refine lp_plB (S0 := (fun x => if x = 109 then upd (S1 109) (dp + 1) (s + (jw_worth (jw_h hm a) b p (nI l) (jz_nd hm b))) else S1 x)) _ 0 hn4 (by omega) (fun _ _ => rfl) (fun q hq => absurd hq (by omega)) (fun S9 g9 g108 x9 => ?_)
              refine lp_pl33 (a := a) (a2 := a) _ (by omega) (fun q hq => ?_) (fun _ _ => rfl) ?_
              · show S9 110 _ = _; rw [g9 110 (by decide)]; show S1 110 _ = _; rw [e110]; exact h110 q hq
              refine lp_pl0 (S0 := S0) (row := row) (s := s) (l + 1) (k + 1, some (s + (jw_worth (jw_h hm a) b p (nI l) (jz_nd hm b)), upd row dp (nI l))) _ hB hmo hA hw0 hp hdn hn4 hwn hhi (by omega) ?_ ?_ ?_ (fun j hj => ?_) ?_ (fun q hq => ?_) (fun q hq => ?_) (fun q hq => ?_) (fun j hj => ?_) (fun i hi => ?_) (fun i hi => ?_) (fun z => k0 ?_) (fun σ' S' k' best' som' x7' z => k1 σ' S' k' best' som' x7' ?_)
              · intro f hf; show S9 11 f = _; rw [g9 11 (by decide)]; exact hS1 f hf
              · refine ⟨rfl, hlk, Or.inr ⟨_, _, rfl, rfl, ?_, fun j hj => ?_⟩⟩
                · rfl
                · show S9 108 j = _
                  rw [g108 j hj]
                  show S1 107 j = _
                  rw [e107]
                  by_cases e : j = dp
                  · rw [e, jg_us]; exact h107
                  · rw [jg_un e]; exact hrow j (by omega)
              · show upd (S9 107) dp (S9 107 dp + 1) dp = _
                rw [jg_us]; rw [g9 107 (by decide)]; show S1 107 dp + 1 = _; rw [e107, h107, jn_S]
              · show upd (S9 107) dp _ j = _
                rw [jg_un (by omega)]; rw [g9 107 (by decide)]; show S1 107 j = _; rw [e107]; exact hrow j hj
              · show S9 109 dp = _; rw [g9 109 (by decide)]; show upd (S1 109) (dp + 1) _ dp = _
                rw [jg_un (by omega), e109]; exact h109
              · show S9 110 (37 * dp + q) = _; rw [g9 110 (by decide)]; show S1 110 (37 * dp + q) = _; rw [e110]; exact h110 q hq
              · show S9 110 q = _; rw [g9 110 (by decide)]; show S1 110 q = _; rw [e110]; exact h0 q hq
              · show S9 111 (32 * dp + q) = _; rw [g9 111 (by decide)]; show S1 111 (32 * dp + q) = _; rw [e111]; exact h111 q hq
              · show S9 109 j = _; rw [g9 109 (by decide)]; show upd (S1 109) (dp + 1) _ j = _
                rw [jg_un (by omega), e109]; exact f109 j hj
              · show S9 110 i = _; rw [g9 110 (by decide)]; show S1 110 i = _; rw [e110]; exact f110 i hi
              · show S9 111 i = _; rw [g9 111 (by decide)]; show S1 111 i = _; rw [e111]; exact f111 i hi
              · rw [hn, jq_len, if_neg hM1, if_neg (by rw [hM.1]; omega), show jq_go hm b p 0 (dp + 1) (jw_gb (jC hm b) (jz_nd hm b) (nI l) a) (s + (jw_worth (jw_h hm a) b p (nI l) (jz_nd hm b))) (upd row dp (nI l)) (σ.1 + 1, σ.2) = some (k + 1, some (s + (jw_worth (jw_h hm a) b p (nI l) (jz_nd hm b)), upd row dp (nI l))) from by rw [hsm, hM.1]; exact congrArg some (if_pos hlt)]; exact z
              · rw [hn, jq_len, if_neg hM1, if_neg (by rw [hM.1]; omega), show jq_go hm b p 0 (dp + 1) (jw_gb (jC hm b) (jz_nd hm b) (nI l) a) (s + (jw_worth (jw_h hm a) b p (nI l) (jz_nd hm b))) (upd row dp (nI l)) (σ.1 + 1, σ.2) = some (k + 1, some (s + (jw_worth (jw_h hm a) b p (nI l) (jz_nd hm b)), upd row dp (nI l))) from by rw [hsm, hM.1]; exact congrArg some (if_pos hlt)]; exact z
        · refine jr_aload rfl rfl ?_
          refine jr_ic rfl ?_
          refine jr_cv1 (mc' := 0) (ms' := 0) rfl jm_MD_bringPlace_n jm_MD_bringPlace_f rfl rfl rfl rfl rfl rfl rfl (Nat.zero_le _) (Nat.zero_le _) ?_
          rw [show (0 : Int32) = nI 0 from rfl]
          refine eS_bringPl (a := jA hm) (a2 := a) (by decide) (fun q hq => by rw [Nat.mul_zero, Nat.zero_add]; exact h0 q hq) hhi ?_
          rw [show ju_I hm 98 0 (jA hm) = hm from jg_self _ _ _]
          refine jr_ic rfl ?_
          refine jr_iret rfl rfl (Nat.zero_le _) (Nat.zero_le _) ?_
          have hlk : ¬ k + 1 ≤ 20000 := fun z => c84 (nI_le (b := 20000) z (by decide))
          refine k0 ?_ S hS
          rw [hn, jq_len, if_neg hM1, if_pos (by rw [hM.1]; omega)]
      · refine jr_iinc6 rfl rfl ?_
        refine jr_goto rfl ?_
        exact absurd (nI_le (b := 31) hl1 (by decide)) c78
    · refine jr_aload rfl rfl ?_
      refine jr_getR rfl rfl rfl rfl (Or.inl rfl) ?_
      refine jr_iload rfl rfl ?_
      refine jr_dup2 rfl ?_
      refine jr_iald (len := 4) rfl rfl rfl (by omega) ?_
      have hl107 : jh_I (jS (jw_h hm a) S) 107 0 dp = nI l := h107
      refine jr_ic rfl ?_
      refine jr_iadd rfl ?_
      refine jr_iast (len := 4) rfl rfl rfl (by omega) ?_
      simp only [jS_107, jS_r107]
      refine jr_goto rfl ?_
      rw [h107, jn_S]
      refine lp_pl0 (S0 := S0) (row := row) (s := s) (l + 1) σ _ hB hmo hA hw0 hp hdn hn4 hwn hhi (by omega) (fun f hf => hS f hf) (jq_M_e hM rfl) (jg_us _ _ _) (fun j hj => (jg_un (by omega)).trans (hrow j hj)) h109 h110 h0 h111 f109 f110 f111 (fun z => k0 ?_) (fun σ' S' k' best' som' x7' z => k1 σ' S' k' best' som' x7' ?_)
      · rw [hn, jq_len, if_pos c63]; exact z
      · rw [hn, jq_len, if_pos c63]; exact z
termination_by 32 - l
decreasing_by all_goals omega

def jq_ML (hm : jx_H) (b p n n0 d : Nat) (Q : Option jx_V → jx_H → Prop) (u : Nat) : Prop := ∀ (dp w k : Nat) (a : jw_A) (s best som : Int32) (row : Nat → Int32) (S0 S : Nat → Nat → Int32) (σ : jq_S) (x7 : Option jx_V), jz_A (jz_np hm b) (jz_nm hm b) a → a 0 = nI w → dp + u = n → w + u ≤ 511 → (∀ q, 37 ≤ q → a q = jA hm q) → (jz_S hm S) → (jq_M S n σ k best som) → (S 107 dp = nI 0) → (∀ j, j < dp → S 107 j = row j) → (S 109 dp = s) → (∀ q, q < 37 → S 110 (37 * dp + q) = a q) → (∀ q, q < 37 → S 110 q = jA hm q) → (∀ q, q < 32 → S 111 (32 * dp + q) = jw_mayb (jw_h hm a) b q) → (∀ j, j ≤ dp → S 109 j = S0 109 j) → (∀ i, i < 37 * dp → S 110 i = S0 110 i) → (∀ i, i < 32 * dp → S 111 i = S0 111 i) → (jq_go hm b p u dp a s row σ = none → ∀ S' : Nat → Nat → Int32, jz_S hm S' → Q (some (jv_i (-1000001))) (jS hm S')) → (∀ (σ' : jq_S) (S' : Nat → Nat → Int32) (k' : Nat) (best' som' : Int32) (x7 : Option jx_V), jq_go hm b p u dp a s row σ = some σ' → jz_S hm S' → jq_M S' n σ' k' best' som' → (∀ j, j < dp → S' 107 j = row j) → (∀ q, q < 37 → S' 110 q = jA hm q) → (∀ j, j ≤ dp → S' 109 j = S0 109 j) → (∀ i, i < 37 * dp → S' 110 i = S0 110 i) → (∀ i, i < 32 * dp → S' 111 i = S0 111 i) → jx_W (jm_MD_plan, d + 10, 0, 0, false, 1, n0) Q 0 0 33 [some (jv_r 11 0), some (jv_i (nI p)), some (jv_i (nI n)), some (jv_i (nI k')), some (jv_i best'), some (jv_i som'), some (jv_i (nI dp + (-1))), x7] [] (jS (jw_h hm a) S')) → jx_W (jm_MD_plan, d + 10, 0, 0, false, 1, n0) Q 0 0 46 [some (jv_r 11 0), some (jv_i (nI p)), some (jv_i (nI n)), some (jv_i (nI k)), some (jv_i best), some (jv_i som), some (jv_i (nI dp)), x7] [] (jS (jw_h hm a) S)
set_option maxHeartbeats 800000 in
set_option maxRecDepth 100000 in
theorem lp_pl1 {d n0 : Nat} {Q : Option jx_V → jx_H → Prop} {hm : jx_H} {b p dp n w k : Nat} {a : jw_A} {s best som : Int32} {row : Nat → Int32} {S0 S : Nat → Nat → Int32} {u : Nat} (IH : jq_ML hm b p n n0 d Q (u + 1)) (l : Nat) (σ : jq_S) (x7 : Option jx_V) (hB : jz_B hm b) (hmo : ¬ jC hm b 0 0 = 0) (hA : jz_A (jz_np hm b) (jz_nm hm b) a) (hw0 : a 0 = nI w) (hp : p < 5) (hdn : dp + (u + 1 + 1) = n) (hn4 : n ≤ 4) (hwn : w + (u + 1 + 1) ≤ 511) (hhi : ∀ q, 37 ≤ q → a q = jA hm q) (hl : l ≤ 32) (hS : jz_S hm S) (hM : jq_M S n σ k best som) (h107 : S 107 dp = nI l) (hrow : ∀ j, j < dp → S 107 j = row j) (h109 : S 109 dp = s) (h110 : ∀ q, q < 37 → S 110 (37 * dp + q) = a q) (h0 : ∀ q, q < 37 → S 110 q = jA hm q) (h111 : ∀ q, q < 32 → S 111 (32 * dp + q) = jw_mayb (jw_h hm a) b q) (f109 : ∀ j, j ≤ dp → S 109 j = S0 109 j) (f110 : ∀ i, i < 37 * dp → S 110 i = S0 110 i) (f111 : ∀ i, i < 32 * dp → S 111 i = S0 111 i) (k0 : (jq_len (jw_mayb (jw_h hm a) b) (fun l σ => jq_go hm b p (u + 1) (dp + 1) (jw_gb (jC hm b) (jz_nd hm b) (nI l) a) (s + (jw_worth (jw_h hm a) b p (nI l) (jz_nd hm b))) (upd row dp (nI l)) σ) (32 - l) l σ) = none → ∀ S' : Nat → Nat → Int32, jz_S hm S' → Q (some (jv_i (-1000001))) (jS hm S')) (k1 : ∀ (σ' : jq_S) (S' : Nat → Nat → Int32) (k' : Nat) (best' som' : Int32) (x7 : Option jx_V), (jq_len (jw_mayb (jw_h hm a) b) (fun l σ => jq_go hm b p (u + 1) (dp + 1) (jw_gb (jC hm b) (jz_nd hm b) (nI l) a) (s + (jw_worth (jw_h hm a) b p (nI l) (jz_nd hm b))) (upd row dp (nI l)) σ) (32 - l) l σ) = some σ' → jz_S hm S' → jq_M S' n σ' k' best' som' → (∀ j, j < dp → S' 107 j = row j) → (∀ q, q < 37 → S' 110 q = jA hm q) → (∀ j, j ≤ dp → S' 109 j = S0 109 j) → (∀ i, i < 37 * dp → S' 110 i = S0 110 i) → (∀ i, i < 32 * dp → S' 111 i = S0 111 i) → jx_W (jm_MD_plan, d + 10, 0, 0, false, 1, n0) Q 0 0 33 [some (jv_r 11 0), some (jv_i (nI p)), some (jv_i (nI n)), some (jv_i (nI k')), some (jv_i best'), some (jv_i som'), some (jv_i (nI dp + (-1))), x7] [] (jS (jw_h hm a) S'))  : jx_W (jm_MD_plan, d + 10, 0, 0, false, 1, n0) Q 0 0 46 [some (jv_r 11 0), some (jv_i (nI p)), some (jv_i (nI n)), some (jv_i (nI k)), some (jv_i best), some (jv_i som), some (jv_i (nI dp)), x7] [] (jS (jw_h hm a) S) := by
  have hk2 := hM.2.1
  refine jr_aload rfl rfl ?_
  refine jr_getR rfl rfl rfl rfl (Or.inl rfl) ?_
  refine jr_iload rfl rfl ?_
  refine jr_iald (len := 4) rfl rfl rfl (by omega) ?_
  rw [show jh_I (jS (jw_h hm a) S) 107 0 dp = nI l from h107]
  refine jr_ic rfl ?_
  refine jr_icmp_gt rfl (fun c51 => ?_) (fun c51 => ?_)
  · refine jr_aload rfl rfl ?_
    refine jr_getR rfl rfl rfl rfl (Or.inl rfl) ?_
    refine jr_iload rfl rfl ?_
    refine jr_iald (len := 4) rfl rfl rfl (by omega) ?_
    rw [show jh_I (jS (jw_h hm a) S) 107 0 dp = nI l from h107]
    refine jr_ic rfl ?_
    refine jr_icmp_le rfl (fun c78 => ?_) (fun c78 => ?_)
    · exact absurd c51 (Int32.not_lt.mpr c78)
    · refine jr_iinc6 rfl rfl ?_
      refine jr_goto rfl ?_
      have hl2 : l = 32 := by have := jn_lt (show nI 31 < nI l from c51) (by omega) (by omega); omega
      subst hl2
      exact k1 σ S k best som _ rfl hS hM hrow h0 f109 f110 f111
  · refine jr_aload rfl rfl ?_
    refine jr_getR rfl rfl rfl rfl (Or.inl rfl) ?_
    refine jr_ic rfl ?_
    refine jr_iload rfl rfl ?_
    refine jr_imul rfl ?_
    refine jr_aload rfl rfl ?_
    refine jr_getR rfl rfl rfl rfl (Or.inl rfl) ?_
    refine jr_iload rfl rfl ?_
    refine jr_iald (len := 4) rfl rfl rfl (by omega) ?_
    have hl1 : l ≤ 31 := jn_nlt (show ¬ nI 31 < nI l from c51) (by omega) (by omega)
    have hn : 32 - l = (32 - (l + 1)) + 1 := by omega
    rw [show jh_I (jS (jw_h hm a) S) 107 0 dp = nI l from h107]
    refine jr_iadd rfl ?_
    refine jr_zald (len := 128) rfl rfl (jn_add (jn_mul (show _ = nI 32 from rfl) rfl) rfl) (by omega) ?_
    rw [show jh_I (jS (jw_h hm a) S) 111 0 (32 * dp + l) = jw_mayb (jw_h hm a) b l from h111 l (by omega)]
    refine jr_if_ne rfl (fun c63 => ?_) (fun c63 => ?_)
    · refine jr_aload rfl rfl ?_
      refine jr_getR rfl rfl rfl rfl (Or.inl rfl) ?_
      refine jr_iload rfl rfl ?_
      refine jr_iald (len := 4) rfl rfl rfl (by omega) ?_
      rw [show jh_I (jS (jw_h hm a) S) 107 0 dp = nI l from h107]
      refine jr_ic rfl ?_
      refine jr_icmp_le rfl (fun c78 => ?_) (fun c78 => ?_)
      · have hM1 : ¬ jw_mayb (jw_h hm a) b l = 0 := c63
        refine jr_iinc3 rfl rfl ?_
        rw [jn_S]
        refine jr_iload rfl rfl ?_
        refine jr_ic rfl ?_
        refine jr_icmp_le rfl (fun c84 => ?_) (fun c84 => ?_)
        · have hlk : k + 1 ≤ 20000 := jn_le (show nI (k + 1) ≤ nI 20000 from c84) (by omega) (by decide)
          refine jr_aload rfl rfl ?_
          refine jr_getR rfl rfl rfl rfl (Or.inl rfl) ?_
          refine jr_iload rfl rfl ?_
          refine jr_ic rfl ?_
          refine jr_iadd rfl ?_
          refine jr_aload rfl rfl ?_
          refine jr_getR rfl rfl rfl rfl (Or.inl rfl) ?_
          refine jr_iload rfl rfl ?_
          refine jr_iald (len := 5) rfl rfl rfl (by omega) ?_
          rw [show jh_I (jS (jw_h hm a) S) 109 0 dp = s from h109]
          refine jr_aload rfl rfl ?_
          refine jr_iload rfl rfl ?_
          refine jr_aload rfl rfl ?_
          refine jr_getR rfl rfl rfl rfl (Or.inl rfl) ?_
          refine jr_iload rfl rfl ?_
          refine jr_iald (len := 4) rfl rfl rfl (by omega) ?_
          rw [show jh_I (jS (jw_h hm a) S) 107 0 dp = nI l from h107]
          refine jr_cv2 (mc' := 0) (ms' := 0) rfl jm_MD_worthOf_n jm_MD_worthOf_f rfl rfl rfl rfl rfl rfl rfl (Nat.zero_le _) (Nat.zero_le _) ?_
          refine eS_worthOf (b := b) (p := p) (l := nI l) (jz_Wa hB hA) hS hmo hp (fun S1 hS1 f1 => ?_)
          rw [show jz_nd (jw_h hm a) b = jz_nd hm b from rfl]
          have e107 := f1 107 (by decide) (by decide)
          have e108 := f1 108 (by decide) (by decide)
          have e109 := f1 109 (by decide) (by decide)
          have e110 := f1 110 (by decide) (by decide)
          have e111 := f1 111 (by decide) (by decide)
          refine jr_iadd rfl ?_
          refine jr_iast (len := 5) rfl rfl (jn_add rfl (show _ = nI 1 from rfl)) (by omega) ?_
          simp only [jS_109, jS_r109]
          refine jr_iload rfl rfl ?_
          refine jr_ic rfl ?_
          refine jr_iadd rfl ?_
          refine jr_iload rfl rfl ?_
          rw [jn_S]
          refine jr_icmp_ge rfl (fun z => absurd z (nI_ge (a := dp + 1) (b := n) (by omega) (by omega))) (fun _ => ?_)
          refine jr_aload rfl rfl ?_
          refine jr_aload rfl rfl ?_
          refine jr_getR rfl rfl rfl rfl (Or.inl rfl) ?_
          refine jr_iload rfl rfl ?_
          refine jr_iald (len := 4) rfl rfl rfl (by omega) ?_
          rw [show jh_I (jS (jw_h hm a) (fun x => if x = 109 then upd (S1 109) (dp + 1) (s + (jw_worth (jw_h hm a) b p (nI l) (jz_nd hm b))) else S1 x)) 107 0 dp = nI l from (congrFun e107 dp).trans h107]
          obtain ⟨hA1, hw1⟩ := jz_A_gb hB.2.2 hmo hA hw0 (by omega) hl1
          refine jr_cv1 (mc' := 0) (ms' := 0) rfl jm_MD_goesBy_n jm_MD_goesBy_f rfl rfl rfl rfl rfl rfl rfl (Nat.zero_le _) (Nat.zero_le _) ?_
          refine eS_goesBy (b := b) (h := hm) hB (fun f hf => hS1 f hf) hmo ?_
          refine jr_iinc6 rfl rfl ?_
          rw [jn_S]
          refine jr_aload rfl rfl ?_
          refine jr_iload rfl rfl ?_
          refine jr_cv1 (mc' := 0) (ms' := 0) rfl jm_MD_keepPlace_n jm_MD_keepPlace_f rfl rfl rfl rfl rfl rfl rfl (Nat.zero_le _) (Nat.zero_le _) ?_
          refine eS_keepPl (hm := jw_h hm (jw_gb (jC hm b) (jz_nd hm b) (nI l) a)) (b := b) (dp := dp + 1) (jz_Wa hB hA1) hmo (by omega) (fun f hf => hS1 f hf) (fun S2 hS2 kf k2 k3 k4 k5 k6 k7 => ?_)
          refine jr_goto rfl ?_
          refine lp_pl33 (dp := dp + 1) (a := (jw_gb (jC hm b) (jz_nd hm b) (nI l) a)) (a2 := (jw_gb (jC hm b) (jz_nd hm b) (nI l) a)) _ (by omega) k2 (fun _ _ => rfl) ?_
          refine IH (dp + 1) (w + 1) _ (jw_gb (jC hm b) (jz_nd hm b) (nI l) a) (s + (jw_worth (jw_h hm a) b p (nI l) (jz_nd hm b))) _ _ (upd row dp (nI l)) (fun x => if x = 109 then upd (S1 109) (dp + 1) (s + (jw_worth (jw_h hm a) b p (nI l) (jz_nd hm b))) else S1 x) _ (σ.1 + 1, σ.2) _ hA1 hw1 (by omega) (by omega) (fun q hq => (jw_gb_hi hB.2.2 (Or.inr (by omega))).trans (hhi q hq)) ?_ ?_ ?_ (fun j hj => ?_) ?_ (fun q hq => k2 q hq) (fun q hq => ?_) (fun q hq => k4 q hq) (fun j hj => ?_) (fun i hi => k3 i hi) (fun i hi => k5 i hi) (fun z => k0 ?_) (fun σ2 S3 k6' best3 som3 x3 q1 q2 q3 q4 q5 q6 q7 q8 => ?_)
          · exact fun f hf => hS2 f hf
          · refine ⟨?_, hlk, ?_⟩
            · show σ.1 + 1 = k + 1; rw [hM.1]
            · have e : S2 108 = S 108 := (kf 108 (by decide) (by decide) (by decide) (by decide) (by decide) (by decide)).trans e108
              show _ ∨ _
              rw [show (fun x => if x = 107 then upd (S2 107) (dp + 1) (S2 107 (dp + 1) + 1) else S2 x) 108 = S 108 from e]
              exact hM.2.2
          · show upd (S2 107) (dp + 1) (S2 107 (dp + 1) + 1) (dp + 1) = nI 0
            rw [jg_us, k6]; decide
          · show upd (S2 107) (dp + 1) _ j = upd row dp (nI l) j
            rw [jg_un (by omega), k7 j (by omega)]
            show S1 107 j = _
            rw [e107]
            by_cases e : j = dp
            · rw [e, jg_us]; exact h107
            · rw [jg_un e]; exact hrow j (by omega)
          · show S2 109 (dp + 1) = _
            rw [kf 109 (by decide) (by decide) (by decide) (by decide) (by decide) (by decide)]
            exact jg_us _ _ _
          · show S2 110 q = _
            rw [k3 q (by omega)]
            show S1 110 q = _
            rw [e110]; exact h0 q hq
          · show S2 109 j = _
            rw [kf 109 (by decide) (by decide) (by decide) (by decide) (by decide) (by decide)]
          · rw [hn, jq_len, if_neg hM1, if_neg (by rw [hM.1]; omega), show jq_go hm b p (u + 1) (dp + 1) (jw_gb (jC hm b) (jz_nd hm b) (nI l) a) (s + (jw_worth (jw_h hm a) b p (nI l) (jz_nd hm b))) (upd row dp (nI l)) (σ.1 + 1, σ.2) = none from z]; rfl
          · rw [jn_dec (show 1 ≤ dp + 1 by omega), show dp + 1 - 1 = dp from rfl]
            refine lp_pl33 (dp := dp) (a := a) (a2 := (jw_gb (jC hm b) (jz_nd hm b) (nI l) a)) _ (by omega) (fun q hq => ?_) (fun q hq => jw_gb_hi hB.2.2 (Or.inr (by omega))) ?_
            · rw [q7 _ (by omega)]
              show S1 110 _ = _
              rw [e110]; exact h110 q hq
            refine lp_pl1 (S0 := S0) (row := row) (s := s) IH (l + 1) σ2 _ hB hmo hA hw0 hp hdn hn4 hwn hhi (by omega) (fun f hf => q2 f hf) (jq_M_e q3 rfl) ?_ (fun j hj => ?_) ?_ (fun q hq => ?_) (fun q hq => ?_) (fun q hq => ?_) (fun j hj => ?_) (fun i hi => ?_) (fun i hi => ?_) (fun z => k0 ?_) (fun σ' S' k' best' som' x7' z => k1 σ' S' k' best' som' x7' ?_)
            · show upd (S3 107) dp (S3 107 dp + 1) dp = _
              rw [jg_us, q4 dp (by omega), jg_us, jn_S]
            · show upd (S3 107) dp _ j = _
              rw [jg_un (by omega), q4 j (by omega), jg_un (by omega)]
            · show S3 109 dp = _
              rw [q6 dp (by omega)]
              show upd (S1 109) (dp + 1) _ dp = _
              rw [jg_un (by omega), e109]; exact h109
            · show S3 110 _ = _
              rw [q7 _ (by omega)]
              show S1 110 _ = _
              rw [e110]; exact h110 q hq
            · exact q5 q hq
            · show S3 111 _ = _
              rw [q8 _ (by omega)]
              show S1 111 _ = _
              rw [e111]; exact h111 q hq
            · show S3 109 j = _
              rw [q6 j (by omega)]
              show upd (S1 109) (dp + 1) _ j = _
              rw [jg_un (by omega), e109]; exact f109 j hj
            · show S3 110 i = _
              rw [q7 i (by omega)]
              show S1 110 i = _
              rw [e110]; exact f110 i hi
            · show S3 111 i = _
              rw [q8 i (by omega)]
              show S1 111 i = _
              rw [e111]; exact f111 i hi
            · rw [hn, jq_len, if_neg hM1, if_neg (by rw [hM.1]; omega), show jq_go hm b p (u + 1) (dp + 1) (jw_gb (jC hm b) (jz_nd hm b) (nI l) a) (s + (jw_worth (jw_h hm a) b p (nI l) (jz_nd hm b))) (upd row dp (nI l)) (σ.1 + 1, σ.2) = some σ2 from q1]; exact z
            · rw [hn, jq_len, if_neg hM1, if_neg (by rw [hM.1]; omega), show jq_go hm b p (u + 1) (dp + 1) (jw_gb (jC hm b) (jz_nd hm b) (nI l) a) (s + (jw_worth (jw_h hm a) b p (nI l) (jz_nd hm b))) (upd row dp (nI l)) (σ.1 + 1, σ.2) = some σ2 from q1]; exact z
        · refine jr_aload rfl rfl ?_
          refine jr_ic rfl ?_
          refine jr_cv1 (mc' := 0) (ms' := 0) rfl jm_MD_bringPlace_n jm_MD_bringPlace_f rfl rfl rfl rfl rfl rfl rfl (Nat.zero_le _) (Nat.zero_le _) ?_
          rw [show (0 : Int32) = nI 0 from rfl]
          refine eS_bringPl (a := jA hm) (a2 := a) (by decide) (fun q hq => by rw [Nat.mul_zero, Nat.zero_add]; exact h0 q hq) hhi ?_
          rw [show ju_I hm 98 0 (jA hm) = hm from jg_self _ _ _]
          refine jr_ic rfl ?_
          refine jr_iret rfl rfl (Nat.zero_le _) (Nat.zero_le _) ?_
          have hlk : ¬ k + 1 ≤ 20000 := fun z => c84 (nI_le (b := 20000) z (by decide))
          refine k0 ?_ S hS
          rw [hn, jq_len, if_neg hM1, if_pos (by rw [hM.1]; omega)]
      · refine jr_iinc6 rfl rfl ?_
        refine jr_goto rfl ?_
        exact absurd (nI_le (b := 31) hl1 (by decide)) c78
    · refine jr_aload rfl rfl ?_
      refine jr_getR rfl rfl rfl rfl (Or.inl rfl) ?_
      refine jr_iload rfl rfl ?_
      refine jr_dup2 rfl ?_
      refine jr_iald (len := 4) rfl rfl rfl (by omega) ?_
      have hl107 : jh_I (jS (jw_h hm a) S) 107 0 dp = nI l := h107
      refine jr_ic rfl ?_
      refine jr_iadd rfl ?_
      refine jr_iast (len := 4) rfl rfl rfl (by omega) ?_
      simp only [jS_107, jS_r107]
      refine jr_goto rfl ?_
      rw [h107, jn_S]
      refine lp_pl1 (S0 := S0) (row := row) (s := s) IH (l + 1) σ _ hB hmo hA hw0 hp hdn hn4 hwn hhi (by omega) (fun f hf => hS f hf) (jq_M_e hM rfl) (jg_us _ _ _) (fun j hj => (jg_un (by omega)).trans (hrow j hj)) h109 h110 h0 h111 f109 f110 f111 (fun z => k0 ?_) (fun σ' S' k' best' som' x7' z => k1 σ' S' k' best' som' x7' ?_)
      · rw [hn, jq_len, if_pos c63]; exact z
      · rw [hn, jq_len, if_pos c63]; exact z
termination_by 32 - l
decreasing_by all_goals omega

theorem jq_pl {hm : jx_H} {b p n n0 d : Nat} {Q : Option jx_V → jx_H → Prop} (hB : jz_B hm b) (hmo : ¬ jC hm b 0 0 = 0) (hp : p < 5) (hn4 : n ≤ 4) : ∀ u, jq_ML hm b p n n0 d Q (u + 1)
  | 0 => fun dp w k a s best som row S0 S σ x7 hA hw0 hdn hwn hhi hS hM h107 hrow h109 h110 h0 h111 f109 f110 f111 k0 k1 => lp_pl0 0 σ x7 hB hmo hA hw0 hp hdn hn4 hwn hhi (by omega) hS hM h107 hrow h109 h110 h0 h111 f109 f110 f111 k0 k1
  | u + 1 => fun dp w k a s best som row S0 S σ x7 hA hw0 hdn hwn hhi hS hM h107 hrow h109 h110 h0 h111 f109 f110 f111 k0 k1 => lp_pl1 (jq_pl hB hmo hp hn4 u) 0 σ x7 hB hmo hA hw0 hp hdn hn4 hwn hhi (by omega) hS hM h107 hrow h109 h110 h0 h111 f109 f110 f111 k0 k1
