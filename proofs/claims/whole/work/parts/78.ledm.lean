set_option maxHeartbeats 800000 in
set_option maxRecDepth 100000 in
theorem eM_fromOf {d : Nat} {Q : Option jx_V → jx_H → Prop} {hm : jx_H} {b i : Nat} {S : Nat → Nat → Int32} (hw : jz_W hm b) (hS : jz_S hm S) (h0 : 0 < jz_nm hm b) (hi : i < 2 ^ 31) (k : Q (some (jv_i (nI (jl_f hm b i)))) (jS hm S))  : jx_Ev jm_MD_fromOf (d + 2) 0 0 false 1 [jv_r 11 0, jv_i (nI i)] (jS hm S) Q := by
  show jx_W (jm_MD_fromOf, d + 2, 0, 0, false, 1, _) Q 0 0 0 [some (jv_r 11 0), some (jv_i (nI i))] [] _
  have hft := jl_ft hw h0 i
  obtain ⟨ft1, ft2, ft3, ft4, ft5⟩ := hft
  have hnm := hw.2.2.1.1
  have hnm6 := hnm.2
  have hb2 := hw.2.1
  refine jr_aload rfl rfl ?_
  refine jr_getR rfl rfl rfl rfl (Or.inl rfl) ?_
  refine jr_ic rfl ?_
  refine jr_aload rfl rfl ?_
  refine jr_getI rfl rfl ?_
  refine jr_imul rfl ?_
  refine jr_iload rfl rfl ?_
  refine jr_aload rfl rfl ?_
  refine jr_getR rfl rfl rfl rfl (Or.inl rfl) ?_
  refine jr_aload rfl rfl ?_
  refine jr_getI rfl rfl ?_
  refine jr_iald (len := 2) rfl rfl (jz_bank hw hS) (by omega) ?_
  rw [show jh_I (jS hm S) 66 0 b = nI (jz_nm hm b) from hnm.1]
  refine jr_irem rfl (nI_ne0 h0 (by omega)) ?_
  rw [show nI i - nI i / nI (jz_nm hm b) * nI (jz_nm hm b) = nI (i % jz_nm hm b) from jn_rem hi (by omega) h0]
  refine jr_iadd rfl ?_
  refine jr_iald (len := 12) rfl rfl (jn_add (jn_mul (show _ = nI 6 from rfl) (jz_bank hw hS)) rfl) (by omega) ?_
  rw [show jh_I (jS hm S) 70 0 (6 * b + i % jz_nm hm b) = nI (jl_f hm b i) from ft1]
  refine jr_iret rfl rfl (Nat.zero_le _) (Nat.zero_le _) ?_
  exact k

set_option maxHeartbeats 800000 in
set_option maxRecDepth 100000 in
theorem eM_wide {d : Nat} {Q : Option jx_V → jx_H → Prop} {hm : jx_H} {b i : Nat} {S : Nat → Nat → Int32} (hw : jz_W hm b) (hS : jz_S hm S) (h0 : 0 < jz_nm hm b) (hi : i < 2 ^ 31) (k : Q (some (jv_i (nI (jl_w hm b i)))) (jS hm S))  : jx_Ev jm_MD_wide (d + 3) 0 0 false 1 [jv_r 11 0, jv_i (nI i)] (jS hm S) Q := by
  show jx_W (jm_MD_wide, d + 3, 0, 0, false, 1, _) Q 0 0 0 [some (jv_r 11 0), some (jv_i (nI i))] [] _
  have hft := jl_ft hw h0 i
  obtain ⟨ft1, ft2, ft3, ft4, ft5⟩ := hft
  have hnm := hw.2.2.1.1
  have hnm6 := hnm.2
  have hb2 := hw.2.1
  refine jr_aload rfl rfl ?_
  refine jr_getR rfl rfl rfl rfl (Or.inl rfl) ?_
  refine jr_ic rfl ?_
  refine jr_aload rfl rfl ?_
  refine jr_getI rfl rfl ?_
  refine jr_imul rfl ?_
  refine jr_iload rfl rfl ?_
  refine jr_aload rfl rfl ?_
  refine jr_getR rfl rfl rfl rfl (Or.inl rfl) ?_
  refine jr_aload rfl rfl ?_
  refine jr_getI rfl rfl ?_
  refine jr_iald (len := 2) rfl rfl (jz_bank hw hS) (by omega) ?_
  rw [show jh_I (jS hm S) 66 0 b = nI (jz_nm hm b) from hnm.1]
  refine jr_irem rfl (nI_ne0 h0 (by omega)) ?_
  rw [show nI i - nI i / nI (jz_nm hm b) * nI (jz_nm hm b) = nI (i % jz_nm hm b) from jn_rem hi (by omega) h0]
  refine jr_iadd rfl ?_
  refine jr_iald (len := 12) rfl rfl (jn_add (jn_mul (show _ = nI 6 from rfl) (jz_bank hw hS)) rfl) (by omega) ?_
  rw [show jh_I (jS hm S) 71 0 (6 * b + i % jz_nm hm b) = nI (jl_t hm b i) from ft2]
  refine jr_aload rfl rfl ?_
  refine jr_iload rfl rfl ?_
  refine jr_cv1 (mc' := 0) (ms' := 0) rfl jm_MD_fromOf_n jm_MD_fromOf_f rfl rfl rfl rfl rfl rfl rfl (Nat.zero_le _) (Nat.zero_le _) ?_
  refine eM_fromOf hw hS h0 hi ?_
  refine jr_isub rfl ?_
  refine jr_ic rfl ?_
  refine jr_iadd rfl ?_
  rw [show nI (jl_t hm b i) - nI (jl_f hm b i) + 1 = nI (jl_w hm b i) from jn_add (jn_sub rfl rfl ft3) (jn_c 1)]
  refine jr_iret rfl rfl (Nat.zero_le _) (Nat.zero_le _) ?_
  exact k

def jl_cn (hm : jx_H) (kk : Int32) (j : Nat) : Bool := decide (jh_I hm 116 0 j ≤ kk ∧ (jh_I hm 117 0 j < 0 ∨ kk < jh_I hm 117 0 j))
def jl_all (p : Nat → Bool) : Nat → Nat → Bool
  | 0, _ => true
  | n + 1, j => p j && jl_all p n (j + 1)
theorem jl_all_iff {p : Nat → Bool} : ∀ n j, jl_all p n j = true ↔ ∀ x, j ≤ x → x < j + n → p x = true
  | 0, j => ⟨fun _ x h1 h2 => by omega, fun _ => rfl⟩
  | n + 1, j => by
    rw [jl_all, Bool.and_eq_true, jl_all_iff n (j + 1)]
    constructor
    · rintro ⟨h1, h2⟩ x h3 h4
      by_cases e : x = j
      · rw [e]; exact h1
      · exact h2 x (by omega) (by omega)
    · intro h
      exact ⟨h j (Nat.le_refl _) (by omega), fun x h1 h2 => h x (by omega) (by omega)⟩
def jl_p (hm : jx_H) (kk : Int32) (R : Nat → Nat) (nm m : Nat) (q mo e : Nat → Nat) (j : Nat) : Bool := !jl_cn hm kk j || jl_so R nm (mo j) (e j) m 0 (q j)
set_option maxHeartbeats 800000 in
set_option maxRecDepth 100000 in
theorem eM_counts {d : Nat} {Q : Option jx_V → jx_H → Prop} {hm : jx_H} {j : Nat} {kk : Int32} {S : Nat → Nat → Int32} (hj : j < 30) (k : Q (some (jv_i (if jl_cn hm kk j = true then 1 else 0))) (jS hm S))  : jx_Ev jm_MD_counts (d + 2) 0 0 false 1 [jv_r 11 0, jv_i (nI j), jv_i kk] (jS hm S) Q := by
  show jx_W (jm_MD_counts, d + 2, 0, 0, false, 1, _) Q 0 0 0 [some (jv_r 11 0), some (jv_i (nI j)), some (jv_i kk)] [] _
  refine jr_aload rfl rfl ?_
  refine jr_getR rfl rfl rfl rfl (Or.inl rfl) ?_
  refine jr_iload rfl rfl ?_
  refine jr_iald (len := 30) rfl rfl rfl (by omega) ?_
  refine jr_iload rfl rfl ?_
  refine jr_icmp_gt rfl (fun c5 => ?_) (fun c5 => ?_)
  · refine jr_ic rfl ?_
    refine jr_zret rfl rfl rfl (Nat.zero_le _) (Nat.zero_le _) ?_
    rw [if_neg (show ¬ jl_cn hm kk j = true from fun z => by
      have z := of_decide_eq_true z
      exact absurd z.1 (Int32.not_le.mpr c5))] at k
    exact k
  · refine jr_aload rfl rfl ?_
    refine jr_getR rfl rfl rfl rfl (Or.inl rfl) ?_
    refine jr_iload rfl rfl ?_
    refine jr_iald (len := 30) rfl rfl rfl (by omega) ?_
    refine jr_if_lt rfl (fun c10 => ?_) (fun c10 => ?_)
    · refine jr_ic rfl ?_
      refine jr_goto rfl ?_
      refine jr_zret rfl rfl rfl (Nat.zero_le _) (Nat.zero_le _) ?_
      rw [if_pos (show jl_cn hm kk j = true from decide_eq_true ⟨Int32.not_lt.mp c5, Or.inl c10⟩)] at k
      exact k
    · refine jr_aload rfl rfl ?_
      refine jr_getR rfl rfl rfl rfl (Or.inl rfl) ?_
      refine jr_iload rfl rfl ?_
      refine jr_iald (len := 30) rfl rfl rfl (by omega) ?_
      refine jr_iload rfl rfl ?_
      refine jr_icmp_le rfl (fun c16 => ?_) (fun c16 => ?_)
      · refine jr_ic rfl ?_
        refine jr_zret rfl rfl rfl (Nat.zero_le _) (Nat.zero_le _) ?_
        rw [if_neg (show ¬ jl_cn hm kk j = true from fun z => by
          have z := of_decide_eq_true z
          exact z.2.elim c10 (fun y => absurd c16 (Int32.not_le.mpr y)))] at k
        exact k
      · refine jr_ic rfl ?_
        refine jr_goto rfl ?_
        refine jr_zret rfl rfl rfl (Nat.zero_le _) (Nat.zero_le _) ?_
        rw [if_pos (show jl_cn hm kk j = true from decide_eq_true ⟨Int32.not_lt.mp c5, Or.inr (Int32.not_le.mp c16)⟩)] at k
        exact k

set_option maxHeartbeats 800000 in
set_option maxRecDepth 100000 in
theorem lp_isSo {d n0 : Nat} {Q : Option jx_V → jx_H → Prop} {hm : jx_H} {b n m j : Nat} {S : Nat → Nat → Int32} {q mo e R : Nat → Nat} (i left : Nat) (hw : jz_W hm b) (hS : jz_S hm S) (h0 : 0 < jz_nm hm b) (hM : ∀ j, j < n → jh_I hm 113 0 j = nI (q j) ∧ q j ≤ 400 ∧ jh_I hm 114 0 j = nI (mo j) ∧ mo j < jz_nm hm b ∧ jh_I hm 115 0 j = nI (e j) ∧ 1 ≤ e j ∧ e j ≤ 31) (hn : n ≤ 30) (hRw : ∀ x, x < m → S 118 x = nI (R x) ∧ R x ≤ 31) (hm5 : m ≤ 5) (hj : j < n) (hi0 : i ≤ m) (hl : left ≤ 400) (k : Q (some (jv_i (if jl_so R (jz_nm hm b) (mo j) (e j) (m - i) i left = true then 1 else 0))) (jS hm S))  : jx_W (jm_MD_isSo, d + 2, 0, 0, false, 1, n0) Q 0 0 7 [some (jv_r 11 0), some (jv_i (nI j)), some (jv_i (nI m)), some (jv_i (nI left)), some (jv_i (nI i))] [] (jS hm S) := by
  have hnm := hw.2.2.1.1
  have hnm6 := hnm.2
  have hb2 := hw.2.1
  have hmj := hM j hj
  obtain ⟨hm1, hm2, hm3, hm4, hm5', hm6, hm7⟩ := hmj
  refine jr_iload rfl rfl ?_
  refine jr_iload rfl rfl ?_
  refine jr_icmp_ge rfl (fun c9 => ?_) (fun c9 => ?_)
  · refine jr_ic rfl ?_
    refine jr_zret rfl rfl rfl (Nat.zero_le _) (Nat.zero_le _) ?_
    rw [show m - i = 0 by have := jn_le (show nI m ≤ nI i from c9) (by omega) (by omega); omega] at k
    exact k
  · have hi1 : i < m := jn_nle (show ¬ nI m ≤ nI i from c9) (by omega) (by omega)
    rw [show m - i = (m - (i + 1)) + 1 by omega] at k
    have hR1 := hRw i hi1
    refine jr_iload rfl rfl ?_
    refine jr_aload rfl rfl ?_
    refine jr_getR rfl rfl rfl rfl (Or.inl rfl) ?_
    refine jr_iload rfl rfl ?_
    refine jr_iald (len := 5) rfl rfl rfl (by omega) ?_
    rw [show jh_I (jS hm S) 118 0 i = nI (R i) from hR1.1]
    refine jr_icmp_ge rfl (fun c15 => ?_) (fun c15 => ?_)
    · have hlr : R i ≤ left := jn_le (show nI (R i) ≤ nI left from c15) (by omega) (by omega)
      refine jr_iload rfl rfl ?_
      refine jr_aload rfl rfl ?_
      refine jr_getR rfl rfl rfl rfl (Or.inl rfl) ?_
      refine jr_iload rfl rfl ?_
      refine jr_iald (len := 5) rfl rfl rfl (by omega) ?_
      rw [show jh_I (jS hm S) 118 0 i = nI (R i) from hR1.1]
      refine jr_isub rfl ?_
      rw [show nI left - nI (R i) = nI (left - R i) from jn_sub rfl rfl hlr]
      refine jr_ist3 rfl rfl ?_
      refine jr_iinc4 rfl rfl ?_
      refine jr_goto rfl ?_
      rw [jl_so, if_neg (show ¬ left < R i by omega)] at k
      rw [jn_S]
      exact lp_isSo (i + 1) (left - R i) hw hS h0 hM hn hRw hm5 hj (by omega) (by omega) k
    · have hlr : left < R i := jn_nle (show ¬ nI (R i) ≤ nI left from c15) (by omega) (by omega)
      have hi31 : i < 2 ^ 31 := by omega
      have hmod : i % jz_nm hm b < jz_nm hm b := Nat.mod_lt _ h0
      refine jr_iload rfl rfl ?_
      refine jr_aload rfl rfl ?_
      refine jr_getR rfl rfl rfl rfl (Or.inl rfl) ?_
      refine jr_aload rfl rfl ?_
      refine jr_getI rfl rfl ?_
      refine jr_iald (len := 2) rfl rfl (jz_bank hw hS) (by omega) ?_
      rw [show jh_I (jS hm S) 66 0 b = nI (jz_nm hm b) from hnm.1]
      refine jr_irem rfl (nI_ne0 h0 (by omega)) ?_
      rw [show nI i - nI i / nI (jz_nm hm b) * nI (jz_nm hm b) = nI (i % jz_nm hm b) from jn_rem hi31 (by omega) h0]
      refine jr_aload rfl rfl ?_
      refine jr_getR rfl rfl rfl rfl (Or.inl rfl) ?_
      refine jr_iload rfl rfl ?_
      refine jr_iald (len := 30) rfl rfl rfl (by omega) ?_
      rw [show jh_I (jS hm S) 114 0 j = nI (mo j) from hm3]
      refine jr_icmp_ne rfl (fun c27 => ?_) (fun c27 => ?_)
      · refine jr_ic rfl ?_
        refine jr_zret rfl rfl rfl (Nat.zero_le _) (Nat.zero_le _) ?_
        rw [jl_so, if_pos hlr] at k
        rw [decide_eq_false (fun z => c27 (congrArg nI z.1))] at k
        exact k
      · refine jr_iload rfl rfl ?_
        refine jr_ic rfl ?_
        refine jr_iadd rfl ?_
        refine jr_aload rfl rfl ?_
        refine jr_getR rfl rfl rfl rfl (Or.inl rfl) ?_
        refine jr_iload rfl rfl ?_
        refine jr_iald (len := 30) rfl rfl rfl (by omega) ?_
        rw [show jh_I (jS hm S) 115 0 j = nI (e j) from hm5', show nI left + 1 = nI (left + 1) from jn_S left]
        refine jr_icmp_ne rfl (fun c35 => ?_) (fun c35 => ?_)
        · refine jr_ic rfl ?_
          refine jr_zret rfl rfl rfl (Nat.zero_le _) (Nat.zero_le _) ?_
          rw [jl_so, if_pos hlr] at k
          rw [decide_eq_false (fun z => c35 (congrArg nI z.2))] at k
          exact k
        · refine jr_ic rfl ?_
          refine jr_goto rfl ?_
          refine jr_zret rfl rfl rfl (Nat.zero_le _) (Nat.zero_le _) ?_
          rw [jl_so, if_pos hlr] at k
          rw [decide_eq_true ⟨jn_eq (show nI (i % jz_nm hm b) = nI (mo j) from c27) (by omega) (by omega), jn_eq (show nI (left + 1) = nI (e j) from c35) (by omega) (by omega)⟩] at k
          exact k
termination_by m - i
decreasing_by all_goals omega

set_option maxHeartbeats 800000 in
set_option maxRecDepth 100000 in
theorem eM_isSo {d : Nat} {Q : Option jx_V → jx_H → Prop} {hm : jx_H} {b n m j : Nat} {S : Nat → Nat → Int32} {q mo e R : Nat → Nat}  (hw : jz_W hm b) (hS : jz_S hm S) (h0 : 0 < jz_nm hm b) (hM : ∀ j, j < n → jh_I hm 113 0 j = nI (q j) ∧ q j ≤ 400 ∧ jh_I hm 114 0 j = nI (mo j) ∧ mo j < jz_nm hm b ∧ jh_I hm 115 0 j = nI (e j) ∧ 1 ≤ e j ∧ e j ≤ 31) (hn : n ≤ 30) (hRw : ∀ x, x < m → S 118 x = nI (R x) ∧ R x ≤ 31) (hm5 : m ≤ 5) (hj : j < n) (k : Q (some (jv_i (if jl_so R (jz_nm hm b) (mo j) (e j) m 0 (q j) = true then 1 else 0))) (jS hm S))  : jx_Ev jm_MD_isSo (d + 2) 0 0 false 1 [jv_r 11 0, jv_i (nI j), jv_i (nI m)] (jS hm S) Q := by
  show jx_W (jm_MD_isSo, d + 2, 0, 0, false, 1, _) Q 0 0 0 [some (jv_r 11 0), some (jv_i (nI j)), some (jv_i (nI m)), none, none] [] _
  refine jr_aload rfl rfl ?_
  refine jr_getR rfl rfl rfl rfl (Or.inl rfl) ?_
  refine jr_iload rfl rfl ?_
  refine jr_iald (len := 30) rfl rfl rfl (by omega) ?_
  rw [show jh_I (jS hm S) 113 0 j = nI (q j) from (hM j hj).1]
  refine jr_ist3 rfl rfl ?_
  refine jr_ic rfl ?_
  refine jr_ist4 rfl rfl ?_
  exact lp_isSo 0 (q j) hw hS h0 hM hn hRw hm5 hj (Nat.zero_le _) (hM j hj).2.1 k

set_option maxHeartbeats 800000 in
set_option maxRecDepth 100000 in
theorem lp_areSo {d n0 : Nat} {Q : Option jx_V → jx_H → Prop} {hm : jx_H} {b n m : Nat} {kk : Int32} {S : Nat → Nat → Int32} {q mo e R : Nat → Nat} (j : Nat) (hw : jz_W hm b) (hS : jz_S hm S) (h0 : 0 < jz_nm hm b) (hM : ∀ j, j < n → jh_I hm 113 0 j = nI (q j) ∧ q j ≤ 400 ∧ jh_I hm 114 0 j = nI (mo j) ∧ mo j < jz_nm hm b ∧ jh_I hm 115 0 j = nI (e j) ∧ 1 ≤ e j ∧ e j ≤ 31) (hn : n ≤ 30) (hRw : ∀ x, x < m → S 118 x = nI (R x) ∧ R x ≤ 31) (hm5 : m ≤ 5) (hl : jh_I hm 11 0 80 = nI n) (hj : j ≤ n) (k : Q (some (jv_i (if jl_all (jl_p hm kk R (jz_nm hm b) m q mo e) (n - j) j = true then 1 else 0))) (jS hm S))  : jx_W (jm_MD_areSo, d + 3, 0, 0, false, 1, n0) Q 0 0 2 [some (jv_r 11 0), some (jv_i (nI m)), some (jv_i kk), some (jv_i (nI j))] [] (jS hm S) := by
  refine jr_iload rfl rfl ?_
  refine jr_aload rfl rfl ?_
  refine jr_getI rfl rfl ?_
  rw [show jh_I (jS hm S) 11 0 80 = nI n from (hS 80 (by decide)).trans hl]
  refine jr_icmp_ge rfl (fun c5 => ?_) (fun c5 => ?_)
  · refine jr_ic rfl ?_
    refine jr_zret rfl rfl rfl (Nat.zero_le _) (Nat.zero_le _) ?_
    rw [show n - j = 0 by have := jn_le (show nI n ≤ nI j from c5) (by omega) (by omega); omega] at k
    exact k
  · have hj1 : j < n := jn_nle (show ¬ nI n ≤ nI j from c5) (by omega) (by omega)
    rw [show n - j = (n - (j + 1)) + 1 by omega] at k
    refine jr_aload rfl rfl ?_
    refine jr_iload rfl rfl ?_
    refine jr_iload rfl rfl ?_
    refine jr_cv2 (mc' := 0) (ms' := 0) rfl jm_MD_counts_n jm_MD_counts_f rfl rfl rfl rfl rfl rfl rfl (Nat.zero_le _) (Nat.zero_le _) ?_
    refine eM_counts (by omega) ?_
    refine jr_if_eq rfl (fun c10 => ?_) (fun c10 => ?_)
    · refine jr_iinc3 rfl rfl ?_
      refine jr_goto rfl ?_
      have hp : jl_p hm kk R (jz_nm hm b) m q mo e j = true := by
        unfold jl_p
        by_cases z : jl_cn hm kk j = true
        · rw [if_pos z] at c10; exact absurd c10 (by decide)
        · rw [Bool.not_eq_true] at z; rw [z]; rfl
      rw [jl_all, hp, Bool.true_and] at k
      rw [jn_S]
      exact lp_areSo (j + 1) hw hS h0 hM hn hRw hm5 hl (by omega) k
    · refine jr_aload rfl rfl ?_
      refine jr_iload rfl rfl ?_
      refine jr_iload rfl rfl ?_
      refine jr_cv2 (mc' := 0) (ms' := 0) rfl jm_MD_isSo_n jm_MD_isSo_f rfl rfl rfl rfl rfl rfl rfl (Nat.zero_le _) (Nat.zero_le _) ?_
      refine eM_isSo hw hS h0 hM hn hRw hm5 hj1 ?_
      refine jr_if_ne rfl (fun c15 => ?_) (fun c15 => ?_)
      · refine jr_iinc3 rfl rfl ?_
        refine jr_goto rfl ?_
        have hp : jl_p hm kk R (jz_nm hm b) m q mo e j = true := by
          unfold jl_p
          by_cases z : jl_so R (jz_nm hm b) (mo j) (e j) m 0 (q j) = true
          · rw [z, Bool.or_true]
          · rw [if_neg z] at c15; exact absurd rfl c15
        rw [jl_all, hp, Bool.true_and] at k
        rw [jn_S]
        exact lp_areSo (j + 1) hw hS h0 hM hn hRw hm5 hl (by omega) k
      · refine jr_ic rfl ?_
        refine jr_zret rfl rfl rfl (Nat.zero_le _) (Nat.zero_le _) ?_
        have hp : jl_p hm kk R (jz_nm hm b) m q mo e j = false := by
          unfold jl_p
          by_cases z : jl_cn hm kk j = true
          · by_cases z2 : jl_so R (jz_nm hm b) (mo j) (e j) m 0 (q j) = true
            · rw [if_pos z2] at c15; exact absurd c15 (by decide)
            · rw [Bool.not_eq_true] at z2; rw [z, z2]; rfl
          · rw [if_neg z] at c10; exact absurd rfl c10
        rw [jl_all, hp, Bool.false_and] at k
        exact k
termination_by n - j
decreasing_by all_goals omega

set_option maxHeartbeats 800000 in
set_option maxRecDepth 100000 in
theorem eM_areSo {d : Nat} {Q : Option jx_V → jx_H → Prop} {hm : jx_H} {b n m : Nat} {kk : Int32} {S : Nat → Nat → Int32} {q mo e R : Nat → Nat}  (hw : jz_W hm b) (hS : jz_S hm S) (h0 : 0 < jz_nm hm b) (hM : ∀ j, j < n → jh_I hm 113 0 j = nI (q j) ∧ q j ≤ 400 ∧ jh_I hm 114 0 j = nI (mo j) ∧ mo j < jz_nm hm b ∧ jh_I hm 115 0 j = nI (e j) ∧ 1 ≤ e j ∧ e j ≤ 31) (hn : n ≤ 30) (hRw : ∀ x, x < m → S 118 x = nI (R x) ∧ R x ≤ 31) (hm5 : m ≤ 5) (hl : jh_I hm 11 0 80 = nI n) (k : Q (some (jv_i (if jl_all (jl_p hm kk R (jz_nm hm b) m q mo e) n 0 = true then 1 else 0))) (jS hm S))  : jx_Ev jm_MD_areSo (d + 3) 0 0 false 1 [jv_r 11 0, jv_i (nI m), jv_i kk] (jS hm S) Q := by
  show jx_W (jm_MD_areSo, d + 3, 0, 0, false, 1, _) Q 0 0 0 [some (jv_r 11 0), some (jv_i (nI m)), some (jv_i kk), none] [] _
  refine jr_ic rfl ?_
  refine jr_ist3 rfl rfl ?_
  exact lp_areSo 0 hw hS h0 hM hn hRw hm5 hl (Nat.zero_le _) k

def jl_gm (hm : jx_H) (b : Nat) (kk : Int32) (n m : Nat) (q mo e : Nat → Nat) (v : Nat) : Bool := jl_all (jl_p hm kk (jl_D (jl_f hm b) (jl_w hm b) v) (jz_nm hm b) m q mo e) n 0
def jl_sn (hm : jx_H) (b : Nat) (G : Nat → Bool) (v i : Nat) : Nat → Prop := fun l => ∃ w, w < v ∧ G w = true ∧ jl_D (jl_f hm b) (jl_w hm b) w i = l
theorem jl_D_le {hm : jx_H} {b v i : Nat} (hw : jz_W hm b) (h0 : 0 < jz_nm hm b) : jl_D (jl_f hm b) (jl_w hm b) v i ≤ 31 := by
  have h1 := jl_ft hw h0 i
  have h2 := jl_w_b hw h0 i
  have h3 := Nat.mod_lt (v / jl_P (jl_w hm b) i) (show 0 < jl_w hm b i by omega)
  unfold jl_D
  unfold jl_w at h3 ⊢
  unfold jl_w at h2
  omega
/-- what is kept of the rows before the v-th -/
def jl_kp (hm : jx_H) (b : Nat) (G : Nat → Bool) (v i : Nat) (S : Nat → Nat → Int32) : Prop := 0 < jl_cnt G v → jl_bm 0 (S 119 i) (jl_sn hm b G v i) ∧ jl_bm 1 (S 120 i) (jl_sn hm b G v i)
theorem jl_sn_no {hm : jx_H} {b : Nat} {G : Nat → Bool} {v i : Nat} (h : jl_cnt G v = 0) (l : Nat) : ¬ jl_sn hm b G v i l := by
  rintro ⟨w, h1, h2, -⟩
  have := (jl_cnt_pos v).mpr ⟨w, h1, h2⟩
  omega
theorem jl_sn_S {hm : jx_H} {b : Nat} {G : Nat → Bool} {v i : Nat} (h : G v = true) (l : Nat) : (jl_sn hm b G v i l ∨ l = jl_D (jl_f hm b) (jl_w hm b) v i) ↔ jl_sn hm b G (v + 1) i l := by
  constructor
  · rintro (⟨w, h1, h2, h3⟩ | h1)
    · exact ⟨w, by omega, h2, h3⟩
    · exact ⟨v, by omega, h, h1.symm⟩
  · rintro ⟨w, h1, h2, h3⟩
    by_cases z : w = v
    · rw [z] at h3; exact Or.inr h3.symm
    · exact Or.inl ⟨w, by omega, h2, h3⟩
theorem jl_sn_N {hm : jx_H} {b : Nat} {G : Nat → Bool} {v i : Nat} (h : ¬ G v = true) (l : Nat) : jl_sn hm b G v i l ↔ jl_sn hm b G (v + 1) i l := by
  constructor
  · rintro ⟨w, h1, h2, h3⟩; exact ⟨w, by omega, h2, h3⟩
  · rintro ⟨w, h1, h2, h3⟩
    by_cases z : w = v
    · rw [z] at h2; exact absurd h2 h
    · exact ⟨w, by omega, h2, h3⟩
theorem jl_kp_N {hm : jx_H} {b : Nat} {G : Nat → Bool} {v i : Nat} {S : Nat → Nat → Int32} (h : ¬ G v = true) (k : jl_kp hm b G v i S) : jl_kp hm b G (v + 1) i S := by
  intro h1
  rw [jl_cnt, if_neg h, Nat.add_zero] at h1
  exact ⟨jl_bm_iff (k h1).1 (jl_sn_N h), jl_bm_iff (k h1).2 (jl_sn_N h)⟩
set_option maxHeartbeats 800000 in
set_option maxRecDepth 100000 in
theorem lp_dec {d n0 : Nat} {Q : Option jx_V → jx_H → Prop} {hm : jx_H} {b m v : Nat} {kk x3 x4 : Int32} (S : Nat → Nat → Int32) (i : Nat) (hw : jz_W hm b) (hS : jz_S hm S) (h0 : 0 < jz_nm hm b) (hm5 : m ≤ 5) (hv : v < 2 ^ 31) (hi0 : i ≤ m) (hR : ∀ x, x < i → S 118 x = nI (jl_D (jl_f hm b) (jl_w hm b) v x)) (k : ∀ (S' : Nat → Nat → Int32) (x6 : Int32), jz_S hm S' → (∀ x, x ≠ 118 → S' x = S x) → (∀ x, x < m → S' 118 x = nI (jl_D (jl_f hm b) (jl_w hm b) v x)) → jx_W (jm_MD_countRows, d + 4, 0, 0, false, 1, n0) Q 0 0 55 [some (jv_r 11 0), some (jv_i (nI m)), some (jv_i kk), some (jv_i x3), some (jv_i x4), some (jv_i (nI v)), some (jv_i x6), some (jv_i (nI m))] [] (jS hm S'))  : jx_W (jm_MD_countRows, d + 4, 0, 0, false, 1, n0) Q 0 0 31 [some (jv_r 11 0), some (jv_i (nI m)), some (jv_i kk), some (jv_i x3), some (jv_i x4), some (jv_i (nI v)), some (jv_i (nI (v / jl_P (jl_w hm b) i))), some (jv_i (nI i))] [] (jS hm S) := by
  have hq : v / jl_P (jl_w hm b) i ≤ v := Nat.div_le_self _ _
  have hwb := jl_w_b hw h0 i
  refine jr_iload rfl rfl ?_
  refine jr_iload rfl rfl ?_
  refine jr_icmp_ge rfl (fun c33 => ?_) (fun c33 => ?_)
  · have hi2 : i = m := by have := jn_le (show nI m ≤ nI i from c33) (by omega) (by omega); omega
    subst hi2
    exact k S _ hS (fun _ _ => rfl) hR
  · have hi1 : i < m := jn_nle (show ¬ nI m ≤ nI i from c33) (by omega) (by omega)
    have hi31 : i < 2 ^ 31 := by omega
    refine jr_aload rfl rfl ?_
    refine jr_getR rfl rfl rfl rfl (Or.inl rfl) ?_
    refine jr_iload rfl rfl ?_
    refine jr_aload rfl rfl ?_
    refine jr_iload rfl rfl ?_
    refine jr_cv1 (mc' := 0) (ms' := 0) rfl jm_MD_fromOf_n jm_MD_fromOf_f rfl rfl rfl rfl rfl rfl rfl (Nat.zero_le _) (Nat.zero_le _) ?_
    refine eM_fromOf hw hS h0 hi31 ?_
    refine jr_iload rfl rfl ?_
    refine jr_aload rfl rfl ?_
    refine jr_iload rfl rfl ?_
    refine jr_cv1 (mc' := 0) (ms' := 0) rfl jm_MD_wide_n jm_MD_wide_f rfl rfl rfl rfl rfl rfl rfl (Nat.zero_le _) (Nat.zero_le _) ?_
    refine eM_wide hw hS h0 hi31 ?_
    refine jr_irem rfl (nI_ne0 (by omega) (by omega)) ?_
    rw [show nI (v / jl_P (jl_w hm b) i) - nI (v / jl_P (jl_w hm b) i) / nI (jl_w hm b i) * nI (jl_w hm b i) = nI (v / jl_P (jl_w hm b) i % jl_w hm b i) from jn_rem (by omega) (by omega) (by omega)]
    refine jr_iadd rfl ?_
    rw [show nI (jl_f hm b i) + nI (v / jl_P (jl_w hm b) i % jl_w hm b i) = nI (jl_D (jl_f hm b) (jl_w hm b) v i) from nI_add _ _]
    refine jr_iast (len := 5) rfl rfl rfl (by omega) ?_
    simp only [jS_118, jS_r118]
    refine jr_iload rfl rfl ?_
    refine jr_aload rfl rfl ?_
    refine jr_iload rfl rfl ?_
    refine jr_cv1 (mc' := 0) (ms' := 0) rfl jm_MD_wide_n jm_MD_wide_f rfl rfl rfl rfl rfl rfl rfl (Nat.zero_le _) (Nat.zero_le _) ?_
    refine eM_wide (S := fun k => if k = 118 then upd (S 118) i (nI (jl_D (jl_f hm b) (jl_w hm b) v i)) else S k) hw hS h0 hi31 ?_
    refine jr_idiv rfl (nI_ne0 (by omega) (by omega)) ?_
    rw [show nI (v / jl_P (jl_w hm b) i) / nI (jl_w hm b i) = nI (v / jl_P (jl_w hm b) (i + 1)) from (jn_div (by omega) (by omega)).trans (congrArg nI (jl_div _ _ _))]
    refine jr_ist6 rfl rfl ?_
    refine jr_iinc7 rfl rfl ?_
    refine jr_goto rfl ?_
    rw [jn_S]
    refine lp_dec (fun k => if k = 118 then upd (S 118) i (nI (jl_D (jl_f hm b) (jl_w hm b) v i)) else S k) (i + 1) hw hS h0 hm5 hv (by omega) (fun x hx => ?_) (fun S' x6 a1 a2 a3 => k S' x6 a1 (fun x hx => (a2 x hx).trans (if_neg hx)) a3)
    show upd (S 118) i _ x = _
    by_cases z : x = i
    · rw [z, jg_us]
    · rw [jg_un z]; exact hR x (by omega)
termination_by m - i
decreasing_by all_goals omega

set_option maxHeartbeats 800000 in
set_option maxRecDepth 100000 in
theorem lp_mm {d n0 : Nat} {Q : Option jx_V → jx_H → Prop} {hm : jx_H} {b m v c : Nat} {kk x3 x6 : Int32} {G : Nat → Bool} (S : Nat → Nat → Int32) (i : Nat) (hw : jz_W hm b) (hS : jz_S hm S) (h0 : 0 < jz_nm hm b) (hm5 : m ≤ 5) (hc : c = jl_cnt G v) (hcb : c < 2 ^ 31) (hG : G v = true) (hv : v < 2 ^ 31) (hi0 : i ≤ m) (hR : ∀ x, x < m → S 118 x = nI (jl_D (jl_f hm b) (jl_w hm b) v x)) (hd : ∀ x, x < i → jl_kp hm b G (v + 1) x S) (hu : ∀ x, i ≤ x → x < m → jl_kp hm b G v x S) (k : ∀ S' : Nat → Nat → Int32, jz_S hm S' → (∀ x, x < m → jl_kp hm b G (v + 1) x S') → jx_W (jm_MD_countRows, d + 4, 0, 0, false, 1, n0) Q 0 0 106 [some (jv_r 11 0), some (jv_i (nI m)), some (jv_i kk), some (jv_i x3), some (jv_i (nI c)), some (jv_i (nI v)), some (jv_i x6), some (jv_i (nI m))] [] (jS hm S'))  : jx_W (jm_MD_countRows, d + 4, 0, 0, false, 1, n0) Q 0 0 63 [some (jv_r 11 0), some (jv_i (nI m)), some (jv_i kk), some (jv_i x3), some (jv_i (nI c)), some (jv_i (nI v)), some (jv_i x6), some (jv_i (nI i))] [] (jS hm S) := by
  have hD31 := @jl_D_le hm b v i hw h0
  refine jr_iload rfl rfl ?_
  refine jr_iload rfl rfl ?_
  refine jr_icmp_ge rfl (fun c65 => ?_) (fun c65 => ?_)
  · have hi2 : i = m := by have := jn_le (show nI m ≤ nI i from c65) (by omega) (by omega); omega
    subst hi2
    exact k S hS hd
  · have hi1 : i < m := jn_nle (show ¬ nI m ≤ nI i from c65) (by omega) (by omega)
    have hRi := hR i hi1
    have hui := hu i (Nat.le_refl _) hi1
    refine jr_iload rfl rfl ?_
    refine jr_if_eq rfl (fun c67 => ?_) (fun c67 => ?_)
    · refine jr_aload rfl rfl ?_
      refine jr_getR rfl rfl rfl rfl (Or.inl rfl) ?_
      refine jr_iload rfl rfl ?_
      refine jr_aload rfl rfl ?_
      refine jr_getR rfl rfl rfl rfl (Or.inl rfl) ?_
      refine jr_iload rfl rfl ?_
      refine jr_iald (len := 5) rfl rfl rfl (by omega) ?_
      refine jr_iast (len := 5) rfl rfl rfl (by omega) ?_
      simp only [jS_119, jS_r119]
      refine jr_iload rfl rfl ?_
      refine jr_if_eq rfl (fun c86 => ?_) (fun c86 => ?_)
      · refine jr_aload rfl rfl ?_
        refine jr_getR rfl rfl rfl rfl (Or.inl rfl) ?_
        refine jr_iload rfl rfl ?_
        refine jr_aload rfl rfl ?_
        refine jr_getR rfl rfl rfl rfl (Or.inl rfl) ?_
        refine jr_iload rfl rfl ?_
        refine jr_iald (len := 5) rfl rfl rfl (by omega) ?_
        refine jr_iast (len := 5) rfl rfl rfl (by omega) ?_
        simp only [jS_120, jS_r120]
        refine jr_iinc7 rfl rfl ?_
        refine jr_goto rfl ?_
        have hs119 : ∀ x, x ≠ i → (fun k => if k = 120 then upd (S 120) i (S 118 i) else (fun k => if k = 119 then upd (S 119) i (S 118 i) else S k) k) 119 x = S 119 x := fun x hx => jg_un hx
        have hs120 : ∀ x, x ≠ i → (fun k => if k = 120 then upd (S 120) i (S 118 i) else (fun k => if k = 119 then upd (S 119) i (S 118 i) else S k) k) 120 x = S 120 x := fun x hx => jg_un hx
        have hc0 : jl_cnt G v = 0 := by
          rw [← hc]
          exact jn_eq (show nI c = nI 0 from c67) (by omega) (by decide)
        have hb0 : jl_bm 0 (-1) (jl_sn hm b G v i) := Or.inl ⟨rfl, jl_sn_no hc0⟩
        have hb1 : jl_bm 1 (-1) (jl_sn hm b G v i) := Or.inl ⟨rfl, jl_sn_no hc0⟩
        rw [jn_S]
        refine lp_mm (fun k => if k = 120 then upd (S 120) i (S 118 i) else (fun k => if k = 119 then upd (S 119) i (S 118 i) else S k) k) (i + 1) hw hS h0 hm5 hc hcb hG hv (by omega) hR (fun x hx => ?_) (fun x h1 hx => ?_) (fun S' a1 a2 => k S' a1 a2)
        · by_cases z : x = i
          · rw [z]
            exact fun _ => ⟨jl_bm_iff (show jl_bm 0 ((fun k => if k = 120 then upd (S 120) i (S 118 i) else (fun k => if k = 119 then upd (S 119) i (S 118 i) else S k) k) 119 i) _ from by rw [show (fun k => if k = 120 then upd (S 120) i (S 118 i) else (fun k => if k = 119 then upd (S 119) i (S 118 i) else S k) k) 119 i = nI (jl_D (jl_f hm b) (jl_w hm b) v i) from (jg_us (S 119) i _).trans hRi]; exact jl_bm_new hD31 hb0 (Or.inl rfl)) (jl_sn_S hG), jl_bm_iff (show jl_bm 1 ((fun k => if k = 120 then upd (S 120) i (S 118 i) else (fun k => if k = 119 then upd (S 119) i (S 118 i) else S k) k) 120 i) _ from by rw [show (fun k => if k = 120 then upd (S 120) i (S 118 i) else (fun k => if k = 119 then upd (S 119) i (S 118 i) else S k) k) 120 i = nI (jl_D (jl_f hm b) (jl_w hm b) v i) from (jg_us (S 120) i _).trans hRi]; exact jl_bm_new hD31 hb1 (Or.inl rfl)) (jl_sn_S hG)⟩
          · intro q1
            rw [hs119 x z, hs120 x z]
            exact hd x (by omega) q1
        · intro q1
          rw [hs119 x (by omega), hs120 x (by omega)]
          exact hu x (by omega) hx q1
      · refine jr_aload rfl rfl ?_
        refine jr_getR rfl rfl rfl rfl (Or.inl rfl) ?_
        refine jr_iload rfl rfl ?_
        refine jr_iald (len := 5) rfl rfl rfl (by omega) ?_
        refine jr_aload rfl rfl ?_
        refine jr_getR rfl rfl rfl rfl (Or.inl rfl) ?_
        refine jr_iload rfl rfl ?_
        refine jr_iald (len := 5) rfl rfl rfl (by omega) ?_
        refine jr_icmp_le rfl (fun c95 => ?_) (fun c95 => ?_)
        · refine jr_iinc7 rfl rfl ?_
          refine jr_goto rfl ?_
          exact absurd c67 c86
        · refine jr_aload rfl rfl ?_
          refine jr_getR rfl rfl rfl rfl (Or.inl rfl) ?_
          refine jr_iload rfl rfl ?_
          refine jr_aload rfl rfl ?_
          refine jr_getR rfl rfl rfl rfl (Or.inl rfl) ?_
          refine jr_iload rfl rfl ?_
          refine jr_iald (len := 5) rfl rfl rfl (by omega) ?_
          refine jr_iast (len := 5) rfl rfl rfl (by omega) ?_
          simp only [jS_120, jS_r120]
          refine jr_iinc7 rfl rfl ?_
          refine jr_goto rfl ?_
          exact absurd c67 c86
    · refine jr_aload rfl rfl ?_
      refine jr_getR rfl rfl rfl rfl (Or.inl rfl) ?_
      refine jr_iload rfl rfl ?_
      refine jr_iald (len := 5) rfl rfl rfl (by omega) ?_
      refine jr_aload rfl rfl ?_
      refine jr_getR rfl rfl rfl rfl (Or.inl rfl) ?_
      refine jr_iload rfl rfl ?_
      refine jr_iald (len := 5) rfl rfl rfl (by omega) ?_
      refine jr_icmp_ge rfl (fun c76 => ?_) (fun c76 => ?_)
      · refine jr_iload rfl rfl ?_
        refine jr_if_eq rfl (fun c86 => ?_) (fun c86 => ?_)
        · refine jr_aload rfl rfl ?_
          refine jr_getR rfl rfl rfl rfl (Or.inl rfl) ?_
          refine jr_iload rfl rfl ?_
          refine jr_aload rfl rfl ?_
          refine jr_getR rfl rfl rfl rfl (Or.inl rfl) ?_
          refine jr_iload rfl rfl ?_
          refine jr_iald (len := 5) rfl rfl rfl (by omega) ?_
          refine jr_iast (len := 5) rfl rfl rfl (by omega) ?_
          simp only [jS_120, jS_r120]
          refine jr_iinc7 rfl rfl ?_
          refine jr_goto rfl ?_
          exact absurd c86 c67
        · refine jr_aload rfl rfl ?_
          refine jr_getR rfl rfl rfl rfl (Or.inl rfl) ?_
          refine jr_iload rfl rfl ?_
          refine jr_iald (len := 5) rfl rfl rfl (by omega) ?_
          refine jr_aload rfl rfl ?_
          refine jr_getR rfl rfl rfl rfl (Or.inl rfl) ?_
          refine jr_iload rfl rfl ?_
          refine jr_iald (len := 5) rfl rfl rfl (by omega) ?_
          refine jr_icmp_le rfl (fun c95 => ?_) (fun c95 => ?_)
          · refine jr_iinc7 rfl rfl ?_
            refine jr_goto rfl ?_
            have hs119 : ∀ x, x ≠ i → S 119 x = S 119 x := fun x hx => rfl
            have hs120 : ∀ x, x ≠ i → S 120 x = S 120 x := fun x hx => rfl
            have hcp : 0 < jl_cnt G v := by
              rw [← hc]
              rcases Nat.eq_zero_or_pos c with z | z
              · rw [z] at c67; exact absurd rfl c67
              · exact z
            obtain ⟨hb0, hb1⟩ := hui hcp
            have hn0 : ¬ S 119 i = -1 := fun z => by
              rcases hb0 with ⟨-, q2⟩ | ⟨w, q1, q2, -⟩
              · obtain ⟨w, q3, q4⟩ := (jl_cnt_pos v).mp hcp
                exact q2 _ ⟨w, q3, q4, rfl⟩
              · rw [q1] at z; exact jl_m1 (by omega) z
            have hn1 : ¬ S 120 i = -1 := fun z => by
              rcases hb1 with ⟨-, q2⟩ | ⟨w, q1, q2, -⟩
              · obtain ⟨w, q3, q4⟩ := (jl_cnt_pos v).mp hcp
                exact q2 _ ⟨w, q3, q4, rfl⟩
              · rw [q1] at z; exact jl_m1 (by omega) z
            rw [jn_S]
            refine lp_mm S (i + 1) hw hS h0 hm5 hc hcb hG hv (by omega) hR (fun x hx => ?_) (fun x h1 hx => ?_) (fun S' a1 a2 => k S' a1 a2)
            · by_cases z : x = i
              · rw [z]
                exact fun _ => ⟨jl_bm_iff (show jl_bm 0 (S 119 i) _ from by rw [show S 119 i = S 119 i from rfl]; exact jl_bm_old hD31 hb0 hn0 (Or.inl ⟨rfl, (show S 119 i ≤ nI (jl_D (jl_f hm b) (jl_w hm b) v i) from by rw [← hRi]; exact c76)⟩)) (jl_sn_S hG), jl_bm_iff (show jl_bm 1 (S 120 i) _ from by rw [show S 120 i = S 120 i from rfl]; exact jl_bm_old hD31 hb1 hn1 (Or.inr ⟨by decide, (show nI (jl_D (jl_f hm b) (jl_w hm b) v i) ≤ S 120 i from by rw [← hRi]; exact c95)⟩)) (jl_sn_S hG)⟩
              · intro q1
                rw [hs119 x z, hs120 x z]
                exact hd x (by omega) q1
            · intro q1
              rw [hs119 x (by omega), hs120 x (by omega)]
              exact hu x (by omega) hx q1
          · refine jr_aload rfl rfl ?_
            refine jr_getR rfl rfl rfl rfl (Or.inl rfl) ?_
            refine jr_iload rfl rfl ?_
            refine jr_aload rfl rfl ?_
            refine jr_getR rfl rfl rfl rfl (Or.inl rfl) ?_
            refine jr_iload rfl rfl ?_
            refine jr_iald (len := 5) rfl rfl rfl (by omega) ?_
            refine jr_iast (len := 5) rfl rfl rfl (by omega) ?_
            simp only [jS_120, jS_r120]
            refine jr_iinc7 rfl rfl ?_
            refine jr_goto rfl ?_
            have hs119 : ∀ x, x ≠ i → (fun k => if k = 120 then upd (S 120) i (S 118 i) else S k) 119 x = S 119 x := fun x hx => rfl
            have hs120 : ∀ x, x ≠ i → (fun k => if k = 120 then upd (S 120) i (S 118 i) else S k) 120 x = S 120 x := fun x hx => jg_un hx
            have hcp : 0 < jl_cnt G v := by
              rw [← hc]
              rcases Nat.eq_zero_or_pos c with z | z
              · rw [z] at c67; exact absurd rfl c67
              · exact z
            obtain ⟨hb0, hb1⟩ := hui hcp
            have hn0 : ¬ S 119 i = -1 := fun z => by
              rcases hb0 with ⟨-, q2⟩ | ⟨w, q1, q2, -⟩
              · obtain ⟨w, q3, q4⟩ := (jl_cnt_pos v).mp hcp
                exact q2 _ ⟨w, q3, q4, rfl⟩
              · rw [q1] at z; exact jl_m1 (by omega) z
            have hn1 : ¬ S 120 i = -1 := fun z => by
              rcases hb1 with ⟨-, q2⟩ | ⟨w, q1, q2, -⟩
              · obtain ⟨w, q3, q4⟩ := (jl_cnt_pos v).mp hcp
                exact q2 _ ⟨w, q3, q4, rfl⟩
              · rw [q1] at z; exact jl_m1 (by omega) z
            rw [jn_S]
            refine lp_mm (fun k => if k = 120 then upd (S 120) i (S 118 i) else S k) (i + 1) hw hS h0 hm5 hc hcb hG hv (by omega) hR (fun x hx => ?_) (fun x h1 hx => ?_) (fun S' a1 a2 => k S' a1 a2)
            · by_cases z : x = i
              · rw [z]
                exact fun _ => ⟨jl_bm_iff (show jl_bm 0 ((fun k => if k = 120 then upd (S 120) i (S 118 i) else S k) 119 i) _ from by rw [show (fun k => if k = 120 then upd (S 120) i (S 118 i) else S k) 119 i = S 119 i from rfl]; exact jl_bm_old hD31 hb0 hn0 (Or.inl ⟨rfl, (show S 119 i ≤ nI (jl_D (jl_f hm b) (jl_w hm b) v i) from by rw [← hRi]; exact c76)⟩)) (jl_sn_S hG), jl_bm_iff (show jl_bm 1 ((fun k => if k = 120 then upd (S 120) i (S 118 i) else S k) 120 i) _ from by rw [show (fun k => if k = 120 then upd (S 120) i (S 118 i) else S k) 120 i = nI (jl_D (jl_f hm b) (jl_w hm b) v i) from (jg_us (S 120) i _).trans hRi]; exact jl_bm_new hD31 hb1 (Or.inr (Or.inr ⟨by decide, Int32.not_le.mp (show ¬ nI (jl_D (jl_f hm b) (jl_w hm b) v i) ≤ S 120 i from by rw [← hRi]; exact c95)⟩))) (jl_sn_S hG)⟩
              · intro q1
                rw [hs119 x z, hs120 x z]
                exact hd x (by omega) q1
            · intro q1
              rw [hs119 x (by omega), hs120 x (by omega)]
              exact hu x (by omega) hx q1
      · refine jr_aload rfl rfl ?_
        refine jr_getR rfl rfl rfl rfl (Or.inl rfl) ?_
        refine jr_iload rfl rfl ?_
        refine jr_aload rfl rfl ?_
        refine jr_getR rfl rfl rfl rfl (Or.inl rfl) ?_
        refine jr_iload rfl rfl ?_
        refine jr_iald (len := 5) rfl rfl rfl (by omega) ?_
        refine jr_iast (len := 5) rfl rfl rfl (by omega) ?_
        simp only [jS_119, jS_r119]
        refine jr_iload rfl rfl ?_
        refine jr_if_eq rfl (fun c86 => ?_) (fun c86 => ?_)
        · refine jr_aload rfl rfl ?_
          refine jr_getR rfl rfl rfl rfl (Or.inl rfl) ?_
          refine jr_iload rfl rfl ?_
          refine jr_aload rfl rfl ?_
          refine jr_getR rfl rfl rfl rfl (Or.inl rfl) ?_
          refine jr_iload rfl rfl ?_
          refine jr_iald (len := 5) rfl rfl rfl (by omega) ?_
          refine jr_iast (len := 5) rfl rfl rfl (by omega) ?_
          simp only [jS_120, jS_r120]
          refine jr_iinc7 rfl rfl ?_
          refine jr_goto rfl ?_
          exact absurd c86 c67
        · refine jr_aload rfl rfl ?_
          refine jr_getR rfl rfl rfl rfl (Or.inl rfl) ?_
          refine jr_iload rfl rfl ?_
          refine jr_iald (len := 5) rfl rfl rfl (by omega) ?_
          refine jr_aload rfl rfl ?_
          refine jr_getR rfl rfl rfl rfl (Or.inl rfl) ?_
          refine jr_iload rfl rfl ?_
          refine jr_iald (len := 5) rfl rfl rfl (by omega) ?_
          refine jr_icmp_le rfl (fun c95 => ?_) (fun c95 => ?_)
          · refine jr_iinc7 rfl rfl ?_
            refine jr_goto rfl ?_
            have hs119 : ∀ x, x ≠ i → (fun k => if k = 119 then upd (S 119) i (S 118 i) else S k) 119 x = S 119 x := fun x hx => jg_un hx
            have hs120 : ∀ x, x ≠ i → (fun k => if k = 119 then upd (S 119) i (S 118 i) else S k) 120 x = S 120 x := fun x hx => rfl
            have hcp : 0 < jl_cnt G v := by
              rw [← hc]
              rcases Nat.eq_zero_or_pos c with z | z
              · rw [z] at c67; exact absurd rfl c67
              · exact z
            obtain ⟨hb0, hb1⟩ := hui hcp
            have hn0 : ¬ S 119 i = -1 := fun z => by
              rcases hb0 with ⟨-, q2⟩ | ⟨w, q1, q2, -⟩
              · obtain ⟨w, q3, q4⟩ := (jl_cnt_pos v).mp hcp
                exact q2 _ ⟨w, q3, q4, rfl⟩
              · rw [q1] at z; exact jl_m1 (by omega) z
            have hn1 : ¬ S 120 i = -1 := fun z => by
              rcases hb1 with ⟨-, q2⟩ | ⟨w, q1, q2, -⟩
              · obtain ⟨w, q3, q4⟩ := (jl_cnt_pos v).mp hcp
                exact q2 _ ⟨w, q3, q4, rfl⟩
              · rw [q1] at z; exact jl_m1 (by omega) z
            rw [jn_S]
            refine lp_mm (fun k => if k = 119 then upd (S 119) i (S 118 i) else S k) (i + 1) hw hS h0 hm5 hc hcb hG hv (by omega) hR (fun x hx => ?_) (fun x h1 hx => ?_) (fun S' a1 a2 => k S' a1 a2)
            · by_cases z : x = i
              · rw [z]
                exact fun _ => ⟨jl_bm_iff (show jl_bm 0 ((fun k => if k = 119 then upd (S 119) i (S 118 i) else S k) 119 i) _ from by rw [show (fun k => if k = 119 then upd (S 119) i (S 118 i) else S k) 119 i = nI (jl_D (jl_f hm b) (jl_w hm b) v i) from (jg_us (S 119) i _).trans hRi]; exact jl_bm_new hD31 hb0 (Or.inr (Or.inl ⟨rfl, Int32.not_le.mp (show ¬ S 119 i ≤ nI (jl_D (jl_f hm b) (jl_w hm b) v i) from by rw [← hRi]; exact c76)⟩))) (jl_sn_S hG), jl_bm_iff (show jl_bm 1 ((fun k => if k = 119 then upd (S 119) i (S 118 i) else S k) 120 i) _ from by rw [show (fun k => if k = 119 then upd (S 119) i (S 118 i) else S k) 120 i = S 120 i from rfl]; exact jl_bm_old hD31 hb1 hn1 (Or.inr ⟨by decide, (show nI (jl_D (jl_f hm b) (jl_w hm b) v i) ≤ S 120 i from by rw [← hRi]; exact c95)⟩)) (jl_sn_S hG)⟩
              · intro q1
                rw [hs119 x z, hs120 x z]
                exact hd x (by omega) q1
            · intro q1
              rw [hs119 x (by omega), hs120 x (by omega)]
              exact hu x (by omega) hx q1
          · refine jr_aload rfl rfl ?_
            refine jr_getR rfl rfl rfl rfl (Or.inl rfl) ?_
            refine jr_iload rfl rfl ?_
            refine jr_aload rfl rfl ?_
            refine jr_getR rfl rfl rfl rfl (Or.inl rfl) ?_
            refine jr_iload rfl rfl ?_
            refine jr_iald (len := 5) rfl rfl rfl (by omega) ?_
            refine jr_iast (len := 5) rfl rfl rfl (by omega) ?_
            simp only [jS_120, jS_r120]
            refine jr_iinc7 rfl rfl ?_
            refine jr_goto rfl ?_
            have hs119 : ∀ x, x ≠ i → (fun k => if k = 120 then upd (S 120) i (S 118 i) else (fun k => if k = 119 then upd (S 119) i (S 118 i) else S k) k) 119 x = S 119 x := fun x hx => jg_un hx
            have hs120 : ∀ x, x ≠ i → (fun k => if k = 120 then upd (S 120) i (S 118 i) else (fun k => if k = 119 then upd (S 119) i (S 118 i) else S k) k) 120 x = S 120 x := fun x hx => jg_un hx
            have hcp : 0 < jl_cnt G v := by
              rw [← hc]
              rcases Nat.eq_zero_or_pos c with z | z
              · rw [z] at c67; exact absurd rfl c67
              · exact z
            obtain ⟨hb0, hb1⟩ := hui hcp
            have hn0 : ¬ S 119 i = -1 := fun z => by
              rcases hb0 with ⟨-, q2⟩ | ⟨w, q1, q2, -⟩
              · obtain ⟨w, q3, q4⟩ := (jl_cnt_pos v).mp hcp
                exact q2 _ ⟨w, q3, q4, rfl⟩
              · rw [q1] at z; exact jl_m1 (by omega) z
            have hn1 : ¬ S 120 i = -1 := fun z => by
              rcases hb1 with ⟨-, q2⟩ | ⟨w, q1, q2, -⟩
              · obtain ⟨w, q3, q4⟩ := (jl_cnt_pos v).mp hcp
                exact q2 _ ⟨w, q3, q4, rfl⟩
              · rw [q1] at z; exact jl_m1 (by omega) z
            rw [jn_S]
            refine lp_mm (fun k => if k = 120 then upd (S 120) i (S 118 i) else (fun k => if k = 119 then upd (S 119) i (S 118 i) else S k) k) (i + 1) hw hS h0 hm5 hc hcb hG hv (by omega) hR (fun x hx => ?_) (fun x h1 hx => ?_) (fun S' a1 a2 => k S' a1 a2)
            · by_cases z : x = i
              · rw [z]
                exact fun _ => ⟨jl_bm_iff (show jl_bm 0 ((fun k => if k = 120 then upd (S 120) i (S 118 i) else (fun k => if k = 119 then upd (S 119) i (S 118 i) else S k) k) 119 i) _ from by rw [show (fun k => if k = 120 then upd (S 120) i (S 118 i) else (fun k => if k = 119 then upd (S 119) i (S 118 i) else S k) k) 119 i = nI (jl_D (jl_f hm b) (jl_w hm b) v i) from (jg_us (S 119) i _).trans hRi]; exact jl_bm_new hD31 hb0 (Or.inr (Or.inl ⟨rfl, Int32.not_le.mp (show ¬ S 119 i ≤ nI (jl_D (jl_f hm b) (jl_w hm b) v i) from by rw [← hRi]; exact c76)⟩))) (jl_sn_S hG), jl_bm_iff (show jl_bm 1 ((fun k => if k = 120 then upd (S 120) i (S 118 i) else (fun k => if k = 119 then upd (S 119) i (S 118 i) else S k) k) 120 i) _ from by rw [show (fun k => if k = 120 then upd (S 120) i (S 118 i) else (fun k => if k = 119 then upd (S 119) i (S 118 i) else S k) k) 120 i = nI (jl_D (jl_f hm b) (jl_w hm b) v i) from (jg_us (S 120) i _).trans hRi]; exact jl_bm_new hD31 hb1 (Or.inr (Or.inr ⟨by decide, Int32.not_le.mp (show ¬ nI (jl_D (jl_f hm b) (jl_w hm b) v i) ≤ S 120 i from by rw [← hRi]; exact c95)⟩))) (jl_sn_S hG)⟩
              · intro q1
                rw [hs119 x z, hs120 x z]
                exact hd x (by omega) q1
            · intro q1
              rw [hs119 x (by omega), hs120 x (by omega)]
              exact hu x (by omega) hx q1
termination_by m - i
decreasing_by all_goals omega

