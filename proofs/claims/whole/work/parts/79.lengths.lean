set_option maxHeartbeats 800000 in
set_option maxRecDepth 100000 in
theorem lp_rv {d n0 : Nat} {Q : Option jx_V → jx_H → Prop} {hm : jx_H} {b n m : Nat} {kk : Int32} {q mo e : Nat → Nat} (S : Nat → Nat → Int32) (v c : Nat) (x6 x7 : Option jx_V) (hw : jz_W hm b) (hS : jz_S hm S) (h0 : 0 < jz_nm hm b) (hM : ∀ j, j < n → jh_I hm 113 0 j = nI (q j) ∧ q j ≤ 400 ∧ jh_I hm 114 0 j = nI (mo j) ∧ mo j < jz_nm hm b ∧ jh_I hm 115 0 j = nI (e j) ∧ 1 ≤ e j ∧ e j ≤ 31) (hn : n ≤ 30) (hl : jh_I hm 11 0 80 = nI n) (hm5 : m ≤ 5) (hv : v ≤ jl_P (jl_w hm b) m) (hc : c = jl_cnt (jl_gm hm b kk n m q mo e) v) (hk : ∀ x, x < m → jl_kp hm b (jl_gm hm b kk n m q mo e) v x S) (hv50 : ¬ 50000 < jl_P (jl_w hm b) m) (k : ∀ S' : Nat → Nat → Int32, jz_S hm S' → (∀ x, x < m → jl_kp hm b (jl_gm hm b kk n m q mo e) (jl_P (jl_w hm b) m) x S') → Q (some (jv_i (nI (jl_cnt (jl_gm hm b kk n m q mo e) (jl_P (jl_w hm b) m))))) (jS hm S'))  : jx_W (jm_MD_countRows, d + 5, 0, 0, false, 1, n0) Q 0 0 24 [some (jv_r 11 0), some (jv_i (nI m)), some (jv_i kk), some (jv_i (nI (jl_P (jl_w hm b) m))), some (jv_i (nI c)), some (jv_i (nI v)), x6, x7] [] (jS hm S) := by
  refine jr_iload rfl rfl ?_
  refine jr_iload rfl rfl ?_
  refine jr_icmp_ge rfl (fun c26 => ?_) (fun c26 => ?_)
  · refine jr_iload rfl rfl ?_
    refine jr_iret rfl rfl (Nat.zero_le _) (Nat.zero_le _) ?_
    have hv2 : v = jl_P (jl_w hm b) m := by have := jn_le (show nI (jl_P (jl_w hm b) m) ≤ nI v from c26) (by omega) (by omega); omega
    subst hv2
    rw [hc]
    exact k S hS hk
  · have hv1 : v < jl_P (jl_w hm b) m := jn_nle (show ¬ nI (jl_P (jl_w hm b) m) ≤ nI v from c26) (by omega) (by omega)
    refine jr_iload rfl rfl ?_
    refine jr_ist6 rfl rfl ?_
    refine jr_ic rfl ?_
    refine jr_ist7 rfl rfl ?_
    have hd0 : v / jl_P (jl_w hm b) 0 = v := by rw [jl_P, Nat.div_one]
    have key := lp_dec (d := d + 1) (n0 := n0) (Q := Q) (kk := kk) (x3 := nI (jl_P (jl_w hm b) m)) (x4 := nI c) (v := v) S 0 hw hS h0 hm5 (by omega) (Nat.zero_le _) (fun x hx => absurd hx (by omega)) (fun S1 x6 hS1 f1 g1 => by
        refine jr_aload rfl rfl ?_
        refine jr_iload rfl rfl ?_
        refine jr_iload rfl rfl ?_
        refine jr_cv2 (mc' := 0) (ms' := 0) rfl jm_MD_areSo_n jm_MD_areSo_f rfl rfl rfl rfl rfl rfl rfl (Nat.zero_le _) (Nat.zero_le _) ?_
        refine eM_areSo (R := jl_D (jl_f hm b) (jl_w hm b) v) (q := q) (mo := mo) (e := e) hw hS1 h0 hM hn (fun x hx => ⟨g1 x hx, jl_D_le hw h0⟩) hm5 hl ?_
        rw [show jl_all (jl_p hm kk (jl_D (jl_f hm b) (jl_w hm b) v) (jz_nm hm b) m q mo e) n 0 = jl_gm hm b kk n m q mo e v from rfl]
        refine jr_if_ne rfl (fun c59 => ?_) (fun c59 => ?_)
        · refine jr_ic rfl ?_
          refine jr_ist7 rfl rfl ?_
          have hg : jl_gm hm b kk n m q mo e v = true := Decidable.byContradiction fun z => c59 (if_neg z)
          have hcv := jl_cnt_le (jl_gm hm b kk n m q mo e) v
          refine lp_mm (G := jl_gm hm b kk n m q mo e) S1 0 hw hS1 h0 hm5 hc (by omega) hg (by omega) (Nat.zero_le _) g1 (fun x hx => absurd hx (by omega)) (fun x _ hx q1 => by rw [f1 119 (by decide), f1 120 (by decide)]; exact hk x hx q1) (fun S2 hS2 g2 => ?_)
          refine jr_iinc4 rfl rfl ?_
          refine jr_iinc5 rfl rfl ?_
          refine jr_goto rfl ?_
          rw [jn_S, jn_S]
          exact lp_rv S2 (v + 1) (c + 1) _ _ hw hS2 h0 hM hn hl hm5 (by omega) (by rw [jl_cnt, if_pos hg, hc]) g2 hv50 k
        · refine jr_goto rfl ?_
          have hg : ¬ jl_gm hm b kk n m q mo e v = true := fun z => by
            rw [if_pos z] at c59; exact absurd c59 (by decide)
          refine jr_iinc5 rfl rfl ?_
          refine jr_goto rfl ?_
          rw [jn_S]
          exact lp_rv S1 (v + 1) c _ _ hw hS1 h0 hM hn hl hm5 (by omega) (by rw [jl_cnt, if_neg hg]; exact hc) (fun x hx => jl_kp_N hg (fun q1 => by rw [f1 119 (by decide), f1 120 (by decide)]; exact hk x hx q1)) hv50 k)
    rw [hd0] at key
    exact key
termination_by jl_P (jl_w hm b) m - v
decreasing_by all_goals omega

set_option maxHeartbeats 800000 in
set_option maxRecDepth 100000 in
theorem lp_prod {d n0 : Nat} {Q : Option jx_V → jx_H → Prop} {hm : jx_H} {b n m : Nat} {kk : Int32} {q mo e : Nat → Nat} {S : Nat → Nat → Int32} (i : Nat) (hw : jz_W hm b) (hS : jz_S hm S) (h0 : 0 < jz_nm hm b) (hM : ∀ j, j < n → jh_I hm 113 0 j = nI (q j) ∧ q j ≤ 400 ∧ jh_I hm 114 0 j = nI (mo j) ∧ mo j < jz_nm hm b ∧ jh_I hm 115 0 j = nI (e j) ∧ 1 ≤ e j ∧ e j ≤ 31) (hn : n ≤ 30) (hl : jh_I hm 11 0 80 = nI n) (hm5 : m ≤ 5) (hi : i ≤ m) (hP : jl_P (jl_w hm b) i ≤ 50000) (k1 : 50000 < jl_P (jl_w hm b) m → ∀ S' : Nat → Nat → Int32, jz_S hm S' → Q (some (jv_i (-2))) (jS hm S')) (k2 : ¬ 50000 < jl_P (jl_w hm b) m → ∀ S' : Nat → Nat → Int32, jz_S hm S' → (∀ x, x < m → jl_kp hm b (jl_gm hm b kk n m q mo e) (jl_P (jl_w hm b) m) x S') → Q (some (jv_i (nI (jl_cnt (jl_gm hm b kk n m q mo e) (jl_P (jl_w hm b) m))))) (jS hm S'))  : jx_W (jm_MD_countRows, d + 5, 0, 0, false, 1, n0) Q 0 0 4 [some (jv_r 11 0), some (jv_i (nI m)), some (jv_i kk), some (jv_i (nI (jl_P (jl_w hm b) i))), some (jv_i (nI i)), none, none, none] [] (jS hm S) := by
  refine jr_iload rfl rfl ?_
  refine jr_iload rfl rfl ?_
  refine jr_icmp_ge rfl (fun c6 => ?_) (fun c6 => ?_)
  · refine jr_ic rfl ?_
    refine jr_ist4 rfl rfl ?_
    refine jr_ic rfl ?_
    refine jr_ist5 rfl rfl ?_
    have hi2 : i = m := by have := jn_le (show nI m ≤ nI i from c6) (by omega) (by omega); omega
    subst hi2
    exact lp_rv S 0 0 _ _ hw hS h0 hM hn hl hm5 (Nat.zero_le _) rfl (fun x hx q1 => absurd (show 0 < 0 from q1) (by decide)) (by omega) (k2 (by omega))
  · have hi1 : i < m := jn_nle (show ¬ nI m ≤ nI i from c6) (by omega) (by omega)
    have hi31 : i < 2 ^ 31 := by omega
    have hP5 := jl_P5 (i := i + 1) hw h0 (by omega)
    refine jr_iload rfl rfl ?_
    refine jr_aload rfl rfl ?_
    refine jr_iload rfl rfl ?_
    refine jr_cv1 (mc' := 0) (ms' := 0) rfl jm_MD_wide_n jm_MD_wide_f rfl rfl rfl rfl rfl rfl rfl (Nat.zero_le _) (Nat.zero_le _) ?_
    refine eM_wide hw hS h0 hi31 ?_
    refine jr_imul rfl ?_
    rw [show nI (jl_P (jl_w hm b) i) * nI (jl_w hm b i) = nI (jl_P (jl_w hm b) (i + 1)) from jn_mul rfl rfl]
    refine jr_ist3 rfl rfl ?_
    refine jr_iload rfl rfl ?_
    refine jr_ic rfl ?_
    refine jr_icmp_le rfl (fun c15 => ?_) (fun c15 => ?_)
    · refine jr_iinc4 rfl rfl ?_
      refine jr_goto rfl ?_
      rw [jn_S]
      exact lp_prod (i + 1) hw hS h0 hM hn hl hm5 (by omega) (Nat.le_of_not_lt fun z => nI_ge z (by omega) c15) k1 k2
    · refine jr_ic rfl ?_
      refine jr_iret rfl rfl (Nat.zero_le _) (Nat.zero_le _) ?_
      have hPi : 50000 < jl_P (jl_w hm b) (i + 1) := Decidable.byContradiction fun z => c15 (nI_le (b := 50000) (Nat.le_of_not_lt z) (by decide))
      have hmn := jl_P_mono2 hw h0 (i + 1) (m - (i + 1))
      rw [show i + 1 + (m - (i + 1)) = m by omega] at hmn
      exact k1 (by omega) S hS
termination_by m - i
decreasing_by all_goals omega

set_option maxHeartbeats 800000 in
set_option maxRecDepth 100000 in
theorem eM_countRows {d : Nat} {Q : Option jx_V → jx_H → Prop} {hm : jx_H} {b n m : Nat} {kk : Int32} {q mo e : Nat → Nat} {S : Nat → Nat → Int32} (hw : jz_W hm b) (hS : jz_S hm S) (h0 : 0 < jz_nm hm b) (hM : ∀ j, j < n → jh_I hm 113 0 j = nI (q j) ∧ q j ≤ 400 ∧ jh_I hm 114 0 j = nI (mo j) ∧ mo j < jz_nm hm b ∧ jh_I hm 115 0 j = nI (e j) ∧ 1 ≤ e j ∧ e j ≤ 31) (hn : n ≤ 30) (hl : jh_I hm 11 0 80 = nI n) (hm5 : m ≤ 5) (k1 : 50000 < jl_P (jl_w hm b) m → ∀ S' : Nat → Nat → Int32, jz_S hm S' → Q (some (jv_i (-2))) (jS hm S')) (k2 : ¬ 50000 < jl_P (jl_w hm b) m → ∀ S' : Nat → Nat → Int32, jz_S hm S' → (∀ x, x < m → jl_kp hm b (jl_gm hm b kk n m q mo e) (jl_P (jl_w hm b) m) x S') → Q (some (jv_i (nI (jl_cnt (jl_gm hm b kk n m q mo e) (jl_P (jl_w hm b) m))))) (jS hm S'))  : jx_Ev jm_MD_countRows (d + 5) 0 0 false 1 [jv_r 11 0, jv_i (nI m), jv_i kk] (jS hm S) Q := by
  show jx_W (jm_MD_countRows, d + 5, 0, 0, false, 1, _) Q 0 0 0 [some (jv_r 11 0), some (jv_i (nI m)), some (jv_i kk), none, none, none, none, none] [] _
  refine jr_ic rfl ?_
  refine jr_ist3 rfl rfl ?_
  refine jr_ic rfl ?_
  refine jr_ist4 rfl rfl ?_
  exact lp_prod 0 hw hS h0 hM hn hl hm5 (Nat.zero_le _) (show 1 ≤ 50000 by decide) k1 k2

def jl_q (hm : jx_H) (j : Nat) : Nat := (jh_I hm 113 0 j).toNatClampNeg
def jl_mo (hm : jx_H) (j : Nat) : Nat := (jh_I hm 114 0 j).toNatClampNeg
def jl_e (hm : jx_H) (j : Nat) : Nat := (jh_I hm 115 0 j).toNatClampNeg
def jl_st (hm : jx_H) (j : Nat) : Nat := jl_mo hm j * 32 + jl_e hm j
abbrev jl_X (hm : jx_H) (kk : Int32) (n : Nat) : Nat → Int32 := jl_nd (jl_q hm) (jl_st hm) (jl_cn hm kk) n
abbrev jl_Y (hm : jx_H) (kk : Int32) (n : Nat) : Nat := jl_lst (jl_q hm) (jl_cn hm kk) n
theorem jl_factsM {hc hm : jx_H} {b n : Nat} (h : ∀ j, j < n → jz_Le1 hc hm b j) (hnm6 : jz_nm hm b ≤ 6) : ∀ j, j < n → jh_I hm 113 0 j = nI (jl_q hm j) ∧ jl_q hm j ≤ 400 ∧ jh_I hm 114 0 j = nI (jl_mo hm j) ∧ jl_mo hm j < jz_nm hm b ∧ jh_I hm 115 0 j = nI (jl_e hm j) ∧ 1 ≤ jl_e hm j ∧ jl_e hm j ≤ 31 := fun j hj => by
  obtain ⟨q, m, e, t, h1, h2, h3, h4, h5, h6, h7, h8, -⟩ := h j hj
  unfold jl_q jl_mo jl_e
  rw [h2, h4, h6, nI_clamp (by omega), nI_clamp (by omega), nI_clamp (by omega)]
  exact ⟨rfl, h3, rfl, h5, rfl, h7, h8⟩
theorem jl_factsC {hc hm : jx_H} {b n : Nat} {kk : Int32} (h : ∀ j, j < n → jz_Le1 hc hm b j) (hnm6 : jz_nm hm b ≤ 6) : ∀ j, j < n → jh_I hc 52 0 j = nI (jl_q hm j) ∧ jl_q hm j ≤ 400 ∧ jh_I hc 53 0 j = nI (jl_st hm j) ∧ (jl_cn hm kk j = true ↔ jh_I hc 54 0 j ≤ kk ∧ (jh_I hc 55 0 j = -1 ∨ kk < jh_I hc 55 0 j)) := fun j hj => by
  obtain ⟨q, m, e, t, h1, h2, h3, h4, h5, h6, h7, h8, h9, h10, h11, h12, h13⟩ := h j hj
  unfold jl_st jl_q jl_mo jl_e jl_cn
  rw [h2, h4, h6, nI_clamp (by omega), nI_clamp (by omega), nI_clamp (by omega)]
  refine ⟨h1, h3, h9, ?_⟩
  rw [decide_eq_true_eq, h10, h11, h12]
  rcases h13 with z | ⟨u, z, z2⟩
  · rw [z]
    exact ⟨fun y => ⟨y.1, Or.inl rfl⟩, fun y => ⟨y.1, Or.inl (by decide)⟩⟩
  · rw [z]
    exact ⟨fun y => ⟨y.1, Or.inr (y.2.elim (fun q => absurd q (nI_pos (by omega))) id)⟩, fun y => ⟨y.1, Or.inr (y.2.elim (fun q => absurd q (jl_m1 (by omega))) id)⟩⟩
theorem jl_hW {hm : jx_H} {b : Nat} (hw : jz_W hm b) (h0 : 0 < jz_nm hm b) (N : Nat → Int32) (i s : Nat) : jl_A hm b N i s < jl_f hm b i + jl_w hm b i := by
  have h1 := @jl_A_le hm b N i s
  have h2 := jl_ft hw h0 i
  unfold jl_w
  omega
theorem jl_NP (W : Nat → Nat) (m : Nat) : jl_N W m 0 = jl_P W m := by
  have := jl_PN W m 0
  rw [jl_P, Nat.one_mul, Nat.zero_add] at this
  exact this
theorem jl_same {hm : jx_H} {b n m : Nat} {kk : Int32} (hw : jz_W hm b) (h0 : 0 < jz_nm hm b) (hM : ∀ j, j < n → jh_I hm 113 0 j = nI (jl_q hm j) ∧ jl_q hm j ≤ 400 ∧ jh_I hm 114 0 j = nI (jl_mo hm j) ∧ jl_mo hm j < jz_nm hm b ∧ jh_I hm 115 0 j = nI (jl_e hm j) ∧ 1 ≤ jl_e hm j ∧ jl_e hm j ≤ 31) (v : Nat) :
    jl_gm hm b kk n m (jl_q hm) (jl_mo hm) (jl_e hm) v = jl_G (jl_f hm b) (jl_w hm b) (jl_A hm b (jl_X hm kk n)) (jl_Y hm kk n) m 0 0 v := by
  have e := jl_eq (f := jl_f hm b) (t := jl_t hm b) (q := jl_q hm) (mo := jl_mo hm) (e := jl_e hm) (cn := jl_cn hm kk) (nm := jz_nm hm b) (n := n) (v := v) (W := jl_w hm b) h0 hw.2.2.1.1.2 (fun i => by have := jl_ft hw h0 i; unfold jl_w; omega) (fun i => by unfold jl_w; omega) (fun i => (jl_ft hw h0 i).2.2.2.1) (fun j hj => ⟨(hM j hj).2.2.2.2.2.1, (hM j hj).2.2.2.2.2.2, (hM j hj).2.2.2.1⟩) m 0 0
  rw [jl_P, Nat.div_one] at e
  rw [Bool.eq_iff_iff]
  refine Iff.trans ?_ e.symm
  unfold jl_gm
  rw [jl_all_iff]
  unfold jl_p
  constructor
  · intro h j hj hc _
    have := h j (Nat.zero_le _) (by omega)
    rw [hc] at this
    exact this
  · intro h j _ hj
    by_cases c : jl_cn hm kk j = true
    · rw [c]
      exact h j (by omega) c (Nat.zero_le _)
    · rw [Bool.not_eq_true] at c
      rw [c]
      rfl
theorem jl_count {hm : jx_H} {b n m : Nat} {kk : Int32} (hw : jz_W hm b) (h0 : 0 < jz_nm hm b) (hM : ∀ j, j < n → jh_I hm 113 0 j = nI (jl_q hm j) ∧ jl_q hm j ≤ 400 ∧ jh_I hm 114 0 j = nI (jl_mo hm j) ∧ jl_mo hm j < jz_nm hm b ∧ jh_I hm 115 0 j = nI (jl_e hm j) ∧ 1 ≤ jl_e hm j ∧ jl_e hm j ≤ 31) :
    jl_T hm b (jl_X hm kk n) (jl_Y hm kk n) m 0 0 = jl_cnt (jl_gm hm b kk n m (jl_q hm) (jl_mo hm) (jl_e hm)) (jl_P (jl_w hm b) m) := by
  unfold jl_T
  rw [← jl_main (jl_hW hw h0 (jl_X hm kk n)) m 0 0, jl_NP]
  exact jl_cnt_congr _ (fun v _ => (jl_same hw h0 hM v).symm)
theorem jl_seen {hm : jx_H} {b n m i : Nat} {kk : Int32} (hw : jz_W hm b) (h0 : 0 < jz_nm hm b) (hM : ∀ j, j < n → jh_I hm 113 0 j = nI (jl_q hm j) ∧ jl_q hm j ≤ 400 ∧ jh_I hm 114 0 j = nI (jl_mo hm j) ∧ jl_mo hm j < jz_nm hm b ∧ jh_I hm 115 0 j = nI (jl_e hm j) ∧ 1 ≤ jl_e hm j ∧ jl_e hm j ≤ 31) (hi : i < m) (l : Nat) :
    jl_sn hm b (jl_gm hm b kk n m (jl_q hm) (jl_mo hm) (jl_e hm)) (jl_P (jl_w hm b) m) i l ↔ ∃ s, jl_rch (jl_f hm b) (jl_A hm b (jl_X hm kk n)) i s ∧ jl_f hm b i ≤ l ∧ l ≤ jl_A hm b (jl_X hm kk n) i s ∧ 0 < jl_T hm b (jl_X hm kk n) (jl_Y hm kk n) (m - (i + 1)) (i + 1) (s + l) := by
  refine Iff.trans ?_ (jl_set (f := jl_f hm b) (W := jl_w hm b) (lst := jl_Y hm kk n) (m := m) (fun i => by unfold jl_w; omega) (jl_hW hw h0 (jl_X hm kk n)) hi)
  unfold jl_sn
  rw [jl_NP]
  constructor
  · rintro ⟨v, h1, h2, h3⟩; exact ⟨v, h1, by rw [← jl_same hw h0 hM]; exact h2, h3⟩
  · rintro ⟨v, h1, h2, h3⟩; exact ⟨v, h1, by rw [jl_same hw h0 hM]; exact h2, h3⟩
theorem jl_Tb {hm : jx_H} {b n m i s : Nat} {N : Nat → Int32} {lst : Nat} (hw : jz_W hm b) (h0 : 0 < jz_nm hm b) (hi : i < m) (hm5 : m ≤ 5) : jl_T hm b N lst (m - (i + 1)) (i + 1) s < 2 ^ 31 := by
  unfold jl_T
  rw [← jl_main (W := jl_w hm b) (jl_hW hw h0 N)]
  have h1 := jl_cnt_le (jl_G (jl_f hm b) (jl_w hm b) (jl_A hm b N) lst (m - (i + 1)) (i + 1) s) (jl_N (jl_w hm b) (m - (i + 1)) (i + 1))
  have h2 := jl_PN (jl_w hm b) (m - (i + 1)) (i + 1)
  rw [show i + 1 + (m - (i + 1)) = m by omega] at h2
  have h3 := jl_P5 hw h0 hm5
  have h4 := (jl_P_b hw h0 (i + 1)).2
  have h5 : 1 * jl_N (jl_w hm b) (m - (i + 1)) (i + 1) ≤ jl_P (jl_w hm b) (i + 1) * jl_N (jl_w hm b) (m - (i + 1)) (i + 1) := Nat.mul_le_mul_right _ h4
  rw [h2, Nat.one_mul] at h5
  omega
