theorem jw_1sh : ∀ {n : Nat}, n ≤ 5 → ((1 : Int32) <<< (nI n &&& 31)) = nI (2 ^ n)
  | 0, _ => by decide
  | 1, _ => by decide
  | 2, _ => by decide
  | 3, _ => by decide
  | 4, _ => by decide
  | 5, _ => by decide
  | n + 6, h => by omega
theorem jw_2p {n : Nat} (h : n ≤ 5) : 2 ^ n ≤ 32 := Nat.pow_le_pow_right (n := 2) (by decide) h
def jw_pc (s : Nat) : Nat := s % 2 + s / 2 % 2 + s / 4 % 2 + s / 8 % 2 + s / 16 % 2
theorem jw_pcs : ∀ s, s < 32 → ¬ s = 0 → jw_pc s = 1 + jw_pc (s &&& (s - 1)) ∧ s &&& (s - 1) < s ∧ nI s &&& (nI s - 1) = nI (s &&& (s - 1)) := by decide +kernel
theorem jw_pcb (s : Nat) (h : s < 32) : jw_pc s ≤ 5 := by unfold jw_pc; omega
set_option maxHeartbeats 800000 in
set_option maxRecDepth 100000 in
theorem lp_bitsOf {d n0 : Nat} {Q : Option jx_V → jx_H → Prop} {h : jx_H} {u : Int32} (n s : Nat) (hs : s < 32) (hQ : Q (some (jv_i (nI (n + jw_pc s)))) h)  : jx_W (jm_MD_bitsOf, d, 0, 0, false, 1, n0) Q 0 0 4 [some (jv_i u), some (jv_i (nI n)), some (jv_i (nI s))] [] h := by
  refine jr_iload rfl rfl ?_
  refine jr_if_eq rfl (fun c5 => ?_) (fun c5 => ?_)
  · refine jr_iload rfl rfl ?_
    refine jr_iret rfl rfl (Nat.zero_le _) (Nat.zero_le _) ?_
    have hs0 : s = 0 := jn_eq (b := 0) c5 (by omega) (by decide)
    rw [hs0] at hQ
    exact hQ
  · have hs0 : ¬ s = 0 := fun z => c5 (by rw [z]; rfl)
    obtain ⟨p1, p2, p3⟩ := jw_pcs s hs hs0
    refine jr_iinc1 rfl rfl ?_
    refine jr_iload rfl rfl ?_
    refine jr_iload rfl rfl ?_
    refine jr_ic rfl ?_
    refine jr_isub rfl ?_
    refine jr_iand rfl ?_
    rw [p3]
    refine jr_ist2 rfl rfl ?_
    refine jr_goto rfl ?_
    rw [jn_S]
    exact lp_bitsOf (n + 1) (s &&& (s - 1)) (by omega) (by rw [show n + 1 + jw_pc (s &&& (s - 1)) = n + jw_pc s by omega]; exact hQ)
termination_by s
decreasing_by all_goals omega

set_option maxHeartbeats 800000 in
set_option maxRecDepth 100000 in
theorem ev_bitsOf {d : Nat} {h : jx_H} {Q : Option jx_V → jx_H → Prop} {s : Nat} (hs : s < 32) (hQ : Q (some (jv_i (nI (jw_pc s)))) h)  : jx_Ev jm_MD_bitsOf (d) 0 0 false 1 [jv_i (nI s)] h Q := by
  show jx_W (jm_MD_bitsOf, d, 0, 0, false, 1, _) Q 0 0 0 [some (jv_i (nI s)), none, none] [] _
  refine jr_ic rfl ?_
  refine jr_ist1 rfl rfl ?_
  refine jr_iload rfl rfl ?_
  refine jr_ist2 rfl rfl ?_
  exact lp_bitsOf 0 s hs (by rw [Nat.zero_add]; exact hQ)

def jw_bc (x : Int32) : Int32 :=
  (fun z : Int32 => (fun z : Int32 => (fun z : Int32 => (fun z : Int32 => (fun y : Int32 => y) (z + ((z).toUInt32 >>> ((16 : Int32).toUInt32 &&& Int32.toUInt32 31)).toInt32) &&& 63) (z + ((z).toUInt32 >>> ((8 : Int32).toUInt32 &&& Int32.toUInt32 31)).toInt32)) ((z + ((z).toUInt32 >>> ((4 : Int32).toUInt32 &&& Int32.toUInt32 31)).toInt32) &&& 252645135)) ((z &&& 858993459) + (((z).toUInt32 >>> ((2 : Int32).toUInt32 &&& Int32.toUInt32 31)).toInt32 &&& 858993459))) (x - (((x).toUInt32 >>> ((1 : Int32).toUInt32 &&& Int32.toUInt32 31)).toInt32 &&& 1431655765))
theorem ev_bitCount {d : Nat} {h : jx_H} {Q : Option jx_V → jx_H → Prop} {s : Nat} (hs : s < 32) (hQ : Q (some (jv_i (nI (jw_pc s)))) h) : jx_Ev jm_Int_bitCount d 0 0 false 0 [jv_i (nI s)] h Q := by
  show jx_W (jm_Int_bitCount, d, 0, 0, false, 0, _) Q 0 0 0 [some (jv_i (nI s))] [] _
  have e : ∀ s, s < 32 → jw_bc (nI s) = nI (jw_pc s) := by decide +kernel
  refine jr_iload rfl rfl ?_
  refine jr_iload rfl rfl ?_
  refine jr_ic rfl ?_
  refine jr_iushr rfl ?_
  refine jr_ic rfl ?_
  refine jr_iand rfl ?_
  refine jr_isub rfl ?_
  refine jr_ist0 rfl rfl ?_
  refine jr_iload rfl rfl ?_
  refine jr_ic rfl ?_
  refine jr_iand rfl ?_
  refine jr_iload rfl rfl ?_
  refine jr_ic rfl ?_
  refine jr_iushr rfl ?_
  refine jr_ic rfl ?_
  refine jr_iand rfl ?_
  refine jr_iadd rfl ?_
  refine jr_ist0 rfl rfl ?_
  refine jr_iload rfl rfl ?_
  refine jr_iload rfl rfl ?_
  refine jr_ic rfl ?_
  refine jr_iushr rfl ?_
  refine jr_iadd rfl ?_
  refine jr_ic rfl ?_
  refine jr_iand rfl ?_
  refine jr_ist0 rfl rfl ?_
  refine jr_iload rfl rfl ?_
  refine jr_iload rfl rfl ?_
  refine jr_ic rfl ?_
  refine jr_iushr rfl ?_
  refine jr_iadd rfl ?_
  refine jr_ist0 rfl rfl ?_
  refine jr_iload rfl rfl ?_
  refine jr_iload rfl rfl ?_
  refine jr_ic rfl ?_
  refine jr_iushr rfl ?_
  refine jr_iadd rfl ?_
  refine jr_ist0 rfl rfl ?_
  refine jr_iload rfl rfl ?_
  refine jr_ic rfl ?_
  refine jr_iand rfl ?_
  refine jr_iret rfl rfl (Nat.zero_le _) (Nat.zero_le _) ?_
  show Q (some (jv_i (jw_bc (nI s)))) h
  rw [e s hs]
  exact hQ
def jw_ob : Option Nat → Int32
  | none => -1
  | some s => nI s
def jw_ls (hm : jx_H) (b v : Nat) : Nat → Nat → Option Nat → Option Nat
  | 0, _, o => o
  | n + 1, s, o => jw_ls hm b v n (s + 1) (if jw_out hm b (nI s) v = nI v then (match o with | none => some s | some q => if nI (jw_pc q) ≤ nI (jw_pc s) then some q else some s) else o)
set_option maxHeartbeats 800000 in
set_option maxRecDepth 100000 in
theorem lp_leastSet {d n0 : Nat} {Q : Option jx_V → jx_H → Prop} {h hm : jx_H} {b r v : Nat} {S : Nat → Nat → Int32} (s : Nat) (o : Option Nat) (hw : jz_W hm b) (hA : jy_A h 0 r (jA hm)) (hR : jy_R h r hm b) (hmo : ¬ jC hm b 0 0 = 0) (hS : jy_S S (jh_I h 7 r 13) hm b) (hv : v < 32) (hs : s ≤ 2 ^ jz_np hm b) (hbo : ∀ q, o = some q → q < 2 ^ jz_np hm b) (k : ∀ S' : Nat → Nat → Int32, Q (some (jv_i (jw_ob (jw_ls hm b v (2 ^ jz_np hm b - s) s o)))) (jP h S' (0 + 1))) : jx_W (jm_Sway_leastSet, d + 8, 0, 0, false, 0, n0) Q 0 0 4 [some (jv_r 8 0), some (jv_i (nI v)), some (jv_i (jw_ob o)), some (jv_i (nI s))] [] (jP h S (0 + 1)) := by
  have hnp5 := hw.2.2.1.2.1.2
  have h2p := jw_2p hnp5
  rcases o with _ | best
  · show jx_W (jm_Sway_leastSet, d + 8, 0, 0, false, 0, n0) Q 0 0 4 [some (jv_r 8 0), some (jv_i (nI v)), some (jv_i (-1)), some (jv_i (nI s))] [] (jP h S (0 + 1))
    refine jr_iload rfl rfl ?_
    refine jr_ic rfl ?_
    refine jr_aload rfl rfl ?_
    refine jr_getI rfl rfl ?_
    refine jr_ishl rfl ?_
    rw [show jh_I (jP h S (0 + 1)) 8 0 4 = nI (jz_np hm b) from hS.2.2.2, jw_1sh hnp5]
    refine jr_icmp_ge rfl (fun c9 => ?_) (fun c9 => ?_)
    · refine jr_iload rfl rfl ?_
      refine jr_iret rfl rfl (Nat.zero_le _) (Nat.zero_le _) ?_
      have hs2 : 2 ^ jz_np hm b ≤ s := jn_le (show nI (2 ^ jz_np hm b) ≤ nI s from c9) (by omega) (by omega)
      have := k S
      rw [show 2 ^ jz_np hm b - s = 0 by omega] at this
      exact this
    · have hs1 : s < 2 ^ jz_np hm b := jn_nle (show ¬ nI (2 ^ jz_np hm b) ≤ nI s from c9) (by omega) (by omega)
      have hn : 2 ^ jz_np hm b - s = (2 ^ jz_np hm b - (s + 1)) + 1 := by omega
      refine jr_aload rfl rfl ?_
      refine jr_iload rfl rfl ?_
      refine jr_iload rfl rfl ?_
      refine jr_cv2 (mc' := 0) (ms' := 0) rfl jm_Sway_turns_n jm_Sway_turns_f rfl rfl rfl rfl rfl rfl rfl (Nat.zero_le _) (Nat.zero_le _) ?_
      refine ev_turns hw hA hR hmo hS hv (fun S1 f1 => ?_)
      refine jr_if_eq rfl (fun c14 => ?_) (fun c14 => ?_)
      · refine jr_iinc3 rfl rfl ?_
        refine jr_goto rfl ?_
        rw [jn_S]
        refine lp_leastSet (s + 1) none hw hA hR hmo (jy_S_fr hS (fun x hx => f1 x (by omega) (by omega))) hv (by omega) (fun q hq => by cases hq) (fun S' => ?_)
        have := k S'
        rw [hn, jw_ls, if_neg (jc_b0 c14)] at this
        exact this
      · refine jr_iload rfl rfl ?_
        refine jr_ic rfl ?_
        refine jr_icmp_eq rfl (fun _ => ?_) (fun z => absurd (by decide) z)
        refine jr_iload rfl rfl ?_
        refine jr_ist2 rfl rfl ?_
        refine jr_iinc3 rfl rfl ?_
        refine jr_goto rfl ?_
        rw [jn_S]
        refine lp_leastSet (s + 1) (some s) hw hA hR hmo (jy_S_fr hS (fun x hx => f1 x (by omega) (by omega))) hv (by omega) (fun q hq => by cases hq; omega) (fun S' => ?_)
        have := k S'
        rw [hn, jw_ls, if_pos (jc_b1 c14)] at this
        exact this
  · have hb32 : best < 32 := by have := hbo best rfl; omega
    show jx_W (jm_Sway_leastSet, d + 8, 0, 0, false, 0, n0) Q 0 0 4 [some (jv_r 8 0), some (jv_i (nI v)), some (jv_i (nI best)), some (jv_i (nI s))] [] (jP h S (0 + 1))
    refine jr_iload rfl rfl ?_
    refine jr_ic rfl ?_
    refine jr_aload rfl rfl ?_
    refine jr_getI rfl rfl ?_
    refine jr_ishl rfl ?_
    rw [show jh_I (jP h S (0 + 1)) 8 0 4 = nI (jz_np hm b) from hS.2.2.2, jw_1sh hnp5]
    refine jr_icmp_ge rfl (fun c9 => ?_) (fun c9 => ?_)
    · refine jr_iload rfl rfl ?_
      refine jr_iret rfl rfl (Nat.zero_le _) (Nat.zero_le _) ?_
      have hs2 : 2 ^ jz_np hm b ≤ s := jn_le (show nI (2 ^ jz_np hm b) ≤ nI s from c9) (by omega) (by omega)
      have := k S
      rw [show 2 ^ jz_np hm b - s = 0 by omega] at this
      exact this
    · have hs1 : s < 2 ^ jz_np hm b := jn_nle (show ¬ nI (2 ^ jz_np hm b) ≤ nI s from c9) (by omega) (by omega)
      have hn : 2 ^ jz_np hm b - s = (2 ^ jz_np hm b - (s + 1)) + 1 := by omega
      refine jr_aload rfl rfl ?_
      refine jr_iload rfl rfl ?_
      refine jr_iload rfl rfl ?_
      refine jr_cv2 (mc' := 0) (ms' := 0) rfl jm_Sway_turns_n jm_Sway_turns_f rfl rfl rfl rfl rfl rfl rfl (Nat.zero_le _) (Nat.zero_le _) ?_
      refine ev_turns hw hA hR hmo hS hv (fun S1 f1 => ?_)
      refine jr_if_eq rfl (fun c14 => ?_) (fun c14 => ?_)
      · refine jr_iinc3 rfl rfl ?_
        refine jr_goto rfl ?_
        rw [jn_S]
        refine lp_leastSet (s + 1) (some best) hw hA hR hmo (jy_S_fr hS (fun x hx => f1 x (by omega) (by omega))) hv (by omega) hbo (fun S' => ?_)
        have := k S'
        rw [hn, jw_ls, if_neg (jc_b0 c14)] at this
        exact this
      · refine jr_iload rfl rfl ?_
        refine jr_ic rfl ?_
        refine jr_icmp_eq rfl (fun z => absurd z (show ¬ nI best = -1 from fun z => nI_pos (show best < 2 ^ 31 by omega) (by rw [z]; decide))) (fun _ => ?_)
        refine jr_iload rfl rfl ?_
        refine jr_cs1 (mc' := 0) (ms' := 0) rfl jm_Int_bitCount_n jm_Int_bitCount_f rfl rfl rfl rfl rfl (Nat.zero_le _) (Nat.zero_le _) ?_
        refine ev_bitCount (by omega) ?_
        refine jr_iload rfl rfl ?_
        refine jr_cs1 (mc' := 0) (ms' := 0) rfl jm_Int_bitCount_n jm_Int_bitCount_f rfl rfl rfl rfl rfl (Nat.zero_le _) (Nat.zero_le _) ?_
        refine ev_bitCount hb32 ?_
        refine jr_icmp_ge rfl (fun c22 => ?_) (fun c22 => ?_)
        · refine jr_iinc3 rfl rfl ?_
          refine jr_goto rfl ?_
          rw [jn_S]
          refine lp_leastSet (s + 1) (some best) hw hA hR hmo (jy_S_fr hS (fun x hx => f1 x (by omega) (by omega))) hv (by omega) hbo (fun S' => ?_)
          have := k S'
          rw [hn, jw_ls, if_pos (jc_b1 c14), if_pos c22] at this
          exact this
        · refine jr_iload rfl rfl ?_
          refine jr_ist2 rfl rfl ?_
          refine jr_iinc3 rfl rfl ?_
          refine jr_goto rfl ?_
          rw [jn_S]
          refine lp_leastSet (s + 1) (some s) hw hA hR hmo (jy_S_fr hS (fun x hx => f1 x (by omega) (by omega))) hv (by omega) (fun q hq => by cases hq; omega) (fun S' => ?_)
          have := k S'
          rw [hn, jw_ls, if_pos (jc_b1 c14), if_neg c22] at this
          exact this
termination_by 2 ^ jz_np hm b - s
decreasing_by all_goals omega
set_option maxHeartbeats 800000 in
set_option maxRecDepth 100000 in
theorem lp_MD_least {d n0 : Nat} {Q : Option jx_V → jx_H → Prop} {hm : jx_H} {b v : Nat} {S : Nat → Nat → Int32} (s : Nat) (o : Option Nat) (hw : jz_W hm b) (hS : jz_S hm S) (hmo : ¬ jC hm b 0 0 = 0) (hv : v < 32) (hM : ∀ j, j < 32 → S 100 j = jw_mayb hm b j) (h104 : ∀ p, p < jz_np hm b → S 104 p = nI (jw_V hm b p)) (hs : s ≤ 2 ^ jz_np hm b) (hbo : ∀ q, o = some q → q < 2 ^ jz_np hm b) (k : ∀ S' : Nat → Nat → Int32, jz_S hm S' → Q (some (jv_i (jw_ob (jw_ls hm b v (2 ^ jz_np hm b - s) s o)))) (jS hm S')) : jx_W (jm_MD_least, d + 8, 0, 0, false, 1, n0) Q 0 0 10 [some (jv_r 11 0), some (jv_i (nI v)), some (jv_i (jw_ob o)), some (jv_i (nI s))] [] (jS hm S) := by
  have hnp5 := hw.2.2.1.2.1.2
  have hb2 := hw.2.1
  have h2p := jw_2p hnp5
  rcases o with _ | best
  · show jx_W (jm_MD_least, d + 8, 0, 0, false, 1, n0) Q 0 0 10 [some (jv_r 11 0), some (jv_i (nI v)), some (jv_i (-1)), some (jv_i (nI s))] [] (jS hm S)
    refine jr_iload rfl rfl ?_
    refine jr_ic rfl ?_
    refine jr_aload rfl rfl ?_
    refine jr_cv0 (mc' := 0) (ms' := 0) rfl jm_MD_personMany_n jm_MD_personMany_f rfl rfl rfl rfl rfl rfl rfl (Nat.zero_le _) (Nat.zero_le _) ?_
    show jx_W (jm_MD_personMany, _, _, _, _, _, _) _ 0 0 0 [some _] [] _
    refine jr_aload rfl rfl ?_
    refine jr_getR rfl rfl rfl rfl (Or.inl rfl) ?_
    refine jr_aload rfl rfl ?_
    refine jr_getI rfl rfl ?_
    refine jr_iald (len := 2) rfl rfl (jz_bank hw hS) (by omega) ?_
    refine jr_iret rfl rfl (Nat.zero_le _) (Nat.zero_le _) ?_
    refine jr_ishl rfl ?_
    rw [show jh_I (jS hm S) 67 0 b = nI (jz_np hm b) from hw.2.2.1.2.1.1, jw_1sh hnp5]
    refine jr_icmp_ge rfl (fun c15 => ?_) (fun c15 => ?_)
    · refine jr_iload rfl rfl ?_
      refine jr_iret rfl rfl (Nat.zero_le _) (Nat.zero_le _) ?_
      have hs2 : 2 ^ jz_np hm b ≤ s := jn_le (show nI (2 ^ jz_np hm b) ≤ nI s from c15) (by omega) (by omega)
      have := k S hS
      rw [show 2 ^ jz_np hm b - s = 0 by omega] at this
      exact this
    · have hs1 : s < 2 ^ jz_np hm b := jn_nle (show ¬ nI (2 ^ jz_np hm b) ≤ nI s from c15) (by omega) (by omega)
      have hn : 2 ^ jz_np hm b - s = (2 ^ jz_np hm b - (s + 1)) + 1 := by omega
      refine jr_iload rfl rfl ?_
      refine jr_if_lt rfl (fun _ => ?_) (fun z => absurd (by decide) z)
      refine jr_aload rfl rfl ?_
      refine jr_iload rfl rfl ?_
      refine jr_iload rfl rfl ?_
      refine jr_cv2 (mc' := 0) (ms' := 0) rfl jm_MD_isTurnedBy_n jm_MD_isTurnedBy_f rfl rfl rfl rfl rfl rfl rfl (Nat.zero_le _) (Nat.zero_le _) ?_
      refine eS_isT hw hS hmo hv hM h104 (fun S1 hS1 f1 => ?_)
      refine jr_if_eq rfl (fun c27 => ?_) (fun c27 => ?_)
      · refine jr_iinc3 rfl rfl ?_
        refine jr_goto rfl ?_
        rw [jn_S]
        refine lp_MD_least (s + 1) none hw hS1 hmo hv (fun j hj => by rw [f1 100 (by decide) (by decide)]; exact hM j hj) (fun p hp => by rw [f1 104 (by decide) (by decide)]; exact h104 p hp) (by omega) hbo (fun S' hS' => ?_)
        have := k S' hS'
        rw [hn, jw_ls, if_neg (jc_b0 c27)] at this
        exact this
      · refine jr_iload rfl rfl ?_
        refine jr_ist2 rfl rfl ?_
        refine jr_iinc3 rfl rfl ?_
        refine jr_goto rfl ?_
        rw [jn_S]
        refine lp_MD_least (s + 1) (some s) hw hS1 hmo hv (fun j hj => by rw [f1 100 (by decide) (by decide)]; exact hM j hj) (fun p hp => by rw [f1 104 (by decide) (by decide)]; exact h104 p hp) (by omega) (fun q hq => by cases hq; omega) (fun S' hS' => ?_)
        have := k S' hS'
        rw [hn, jw_ls, if_pos (jc_b1 c27)] at this
        exact this
  · have hb32 : best < 32 := by have := hbo best rfl; omega
    show jx_W (jm_MD_least, d + 8, 0, 0, false, 1, n0) Q 0 0 10 [some (jv_r 11 0), some (jv_i (nI v)), some (jv_i (nI best)), some (jv_i (nI s))] [] (jS hm S)
    refine jr_iload rfl rfl ?_
    refine jr_ic rfl ?_
    refine jr_aload rfl rfl ?_
    refine jr_cv0 (mc' := 0) (ms' := 0) rfl jm_MD_personMany_n jm_MD_personMany_f rfl rfl rfl rfl rfl rfl rfl (Nat.zero_le _) (Nat.zero_le _) ?_
    show jx_W (jm_MD_personMany, _, _, _, _, _, _) _ 0 0 0 [some _] [] _
    refine jr_aload rfl rfl ?_
    refine jr_getR rfl rfl rfl rfl (Or.inl rfl) ?_
    refine jr_aload rfl rfl ?_
    refine jr_getI rfl rfl ?_
    refine jr_iald (len := 2) rfl rfl (jz_bank hw hS) (by omega) ?_
    refine jr_iret rfl rfl (Nat.zero_le _) (Nat.zero_le _) ?_
    refine jr_ishl rfl ?_
    rw [show jh_I (jS hm S) 67 0 b = nI (jz_np hm b) from hw.2.2.1.2.1.1, jw_1sh hnp5]
    refine jr_icmp_ge rfl (fun c15 => ?_) (fun c15 => ?_)
    · refine jr_iload rfl rfl ?_
      refine jr_iret rfl rfl (Nat.zero_le _) (Nat.zero_le _) ?_
      have hs2 : 2 ^ jz_np hm b ≤ s := jn_le (show nI (2 ^ jz_np hm b) ≤ nI s from c15) (by omega) (by omega)
      have := k S hS
      rw [show 2 ^ jz_np hm b - s = 0 by omega] at this
      exact this
    · have hs1 : s < 2 ^ jz_np hm b := jn_nle (show ¬ nI (2 ^ jz_np hm b) ≤ nI s from c15) (by omega) (by omega)
      have hn : 2 ^ jz_np hm b - s = (2 ^ jz_np hm b - (s + 1)) + 1 := by omega
      refine jr_iload rfl rfl ?_
      refine jr_if_lt rfl (fun z => absurd z (nI_pos (by omega))) (fun _ => ?_)
      refine jr_iload rfl rfl ?_
      refine jr_cs1 (mc' := 0) (ms' := 0) rfl jm_MD_bitsOf_n jm_MD_bitsOf_f rfl rfl rfl rfl rfl (Nat.zero_le _) (Nat.zero_le _) ?_
      refine ev_bitsOf (by omega) ?_
      refine jr_iload rfl rfl ?_
      refine jr_cs1 (mc' := 0) (ms' := 0) rfl jm_MD_bitsOf_n jm_MD_bitsOf_f rfl rfl rfl rfl rfl (Nat.zero_le _) (Nat.zero_le _) ?_
      refine ev_bitsOf hb32 ?_
      refine jr_icmp_ge rfl (fun c22 => ?_) (fun c22 => ?_)
      · refine jr_iinc3 rfl rfl ?_
        refine jr_goto rfl ?_
        rw [jn_S]
        refine lp_MD_least (s + 1) (some best) hw hS hmo hv hM h104 (by omega) hbo (fun S' hS' => ?_)
        have := k S' hS'
        rw [hn, jw_ls, if_pos c22, ite_self] at this
        exact this
      · refine jr_aload rfl rfl ?_
        refine jr_iload rfl rfl ?_
        refine jr_iload rfl rfl ?_
        refine jr_cv2 (mc' := 0) (ms' := 0) rfl jm_MD_isTurnedBy_n jm_MD_isTurnedBy_f rfl rfl rfl rfl rfl rfl rfl (Nat.zero_le _) (Nat.zero_le _) ?_
        refine eS_isT hw hS hmo hv hM h104 (fun S1 hS1 f1 => ?_)
        refine jr_if_eq rfl (fun c27 => ?_) (fun c27 => ?_)
        · refine jr_iinc3 rfl rfl ?_
          refine jr_goto rfl ?_
          rw [jn_S]
          refine lp_MD_least (s + 1) (some best) hw hS1 hmo hv (fun j hj => by rw [f1 100 (by decide) (by decide)]; exact hM j hj) (fun p hp => by rw [f1 104 (by decide) (by decide)]; exact h104 p hp) (by omega) hbo (fun S' hS' => ?_)
          have := k S' hS'
          rw [hn, jw_ls, if_neg (jc_b0 c27)] at this
          exact this
        · refine jr_iload rfl rfl ?_
          refine jr_ist2 rfl rfl ?_
          refine jr_iinc3 rfl rfl ?_
          refine jr_goto rfl ?_
          rw [jn_S]
          refine lp_MD_least (s + 1) (some s) hw hS1 hmo hv (fun j hj => by rw [f1 100 (by decide) (by decide)]; exact hM j hj) (fun p hp => by rw [f1 104 (by decide) (by decide)]; exact h104 p hp) (by omega) (fun q hq => by cases hq; omega) (fun S' hS' => ?_)
          have := k S' hS'
          rw [hn, jw_ls, if_pos (jc_b1 c27), if_neg c22] at this
          exact this
termination_by 2 ^ jz_np hm b - s
decreasing_by all_goals omega
set_option maxHeartbeats 800000 in
set_option maxRecDepth 100000 in
theorem pd_turned {d : Nat} {hc hm : jx_H} {x y : Int32} (hRel : jz_Rel hc hm) : jx_Ev jm_JV_turned (d + 40) 0 0 false 0 [jv_r 10 0, jv_i x, jv_i y] hc (fun r hc' => jx_Ev jm_MD_turned (d + 40) 0 0 false 1 [jv_r 11 0, jv_i x, jv_i y] hm (fun r' hm' => r = r' ∧ jz_Rel hc' hm')) := by
  have hRel0 := hRel
  obtain ⟨b, r, ⟨hw, hG, hr2, hto, hsp, hR, hA, hL⟩, hTa, hFa, hLy, hTi, hLe, hBo, hAc, hWo⟩ := hRel
  have hb2 := hw.2.1
  have hnm := hw.2.2.1.1
  have hnm5 := hnm.2
  have km1 : (jh_I hc 7 r 0).toInt = (jz_nm hm b : Int) := by rw [hR.1]; exact (congrArg Int32.toInt hnm.1).trans (nI_toInt (by omega))
  have km2 : (jh_I hm 66 0 b).toInt = (jz_nm hm b : Int) := (congrArg Int32.toInt hnm.1).trans (nI_toInt (by omega))
  have km3 : (jh_I hm 66 0 b - 1).toInt = (jz_nm hm b : Int) - 1 := by rw [Int32.toInt_sub, km2, show (1 : Int32).toInt = 1 from rfl]; exact jn_sm (by omega) (by omega)
  have hnp0 := hw.2.2.1.2.1
  have es1 : ((1 : Int32) <<< (jh_I hc 7 r 3 &&& 31)) = nI (2 ^ jz_np hm b) := by rw [show jh_I hc 7 r 3 = nI (jz_np hm b) from hR.2.1.trans hnp0.1]; exact jw_1sh hnp0.2
  have es2 : ((1 : Int32) <<< (jh_I hm 67 0 b &&& 31)) = nI (2 ^ jz_np hm b) := by rw [hnp0.1]; exact jw_1sh hnp0.2
  have e2p : 2 ^ jz_np hm b ≤ 32 := jw_2p hnp0.2
  rcases jz_3 (A := jC hm b 0 0 = 0) y 0 31 (by decide) with hmo | ⟨hmo, i, rfl, -, hi, hi2⟩ | ⟨hmo, hi⟩
  · have hn0 : (jz_nm hm b : Int) = 0 := by rw [← km2]; exact congrArg Int32.toInt hmo
    show jx_W (jm_JV_turned, d + 40, 0, 0, false, 0, _) _ 0 0 0 [some (jv_r 10 0), some (jv_i x), some (jv_i y)] [] _
    refine jr_aload rfl rfl ?_
    refine jr_iload rfl rfl ?_
    refine jr_cv1 (mc' := 0) (ms' := 0) rfl jm_JV_canBeAimedAt_n jm_JV_canBeAimedAt_f rfl rfl rfl rfl rfl rfl rfl (Nat.zero_le _) (Nat.zero_le _) ?_
    show jx_W (jm_JV_canBeAimedAt, _, _, _, _, _, _) _ 0 0 0 [some _, some _] [] _
    refine jr_aload rfl rfl ?_
    refine jr_getM rfl rfl rfl rfl hto ?_
    refine jr_getI rfl rfl ?_
    refine jr_if_ne rfl (fun c3JVcanBeAimedAt => ?_) (fun c3JVcanBeAimedAt => ?_)
    · refine jr_aload rfl rfl ?_
      refine jr_getR rfl rfl rfl rfl (Or.inl rfl) ?_
      refine jr_aload rfl rfl ?_
      refine jr_getR rfl rfl rfl rfl (Or.inl rfl) ?_
      refine jr_cv1 (mc' := 0) (ms' := 0) rfl jm_Sway_begin_n jm_Sway_begin_f rfl rfl rfl rfl rfl rfl rfl (Nat.zero_le _) (Nat.zero_le _) ?_
      first
        | (exfalso; omega)
        | (exfalso; simp (disch := omega) only [Int32.lt_iff_toInt_lt, Int32.le_iff_toInt_le, ← Int32.toInt_inj, Int32.reduceToInt, nI_toInt] at c3JVcanBeAimedAt; done)
        | (exfalso; simp (disch := omega) only [Int32.lt_iff_toInt_lt, Int32.le_iff_toInt_le, ← Int32.toInt_inj, Int32.reduceToInt, nI_toInt] at c3JVcanBeAimedAt; omega)
    · refine jr_ic rfl ?_
      refine jr_zret rfl rfl rfl (Nat.zero_le _) (Nat.zero_le _) ?_
      refine jr_if_eq rfl (fun _ => ?_) (fun z => absurd (by decide) z)
      refine jr_ic rfl ?_
      refine jr_iret rfl rfl (Nat.zero_le _) (Nat.zero_le _) ?_
      show jx_W (jm_MD_turned, d + 40, 0, 0, false, 1, _) _ 0 0 0 [some _, some _, some _] [] _
      refine jr_iload rfl rfl ?_
      refine jr_if_lt rfl (fun m1 => ?_) (fun m1 => ?_)
      · refine jr_ic rfl ?_
        refine jr_iret rfl rfl (Nat.zero_le _) (Nat.zero_le _) ?_
        first
          | exact ⟨rfl, hRel0⟩
          | (exfalso; omega)
          | (exfalso; simp (disch := omega) only [Int32.lt_iff_toInt_lt, Int32.le_iff_toInt_le, ← Int32.toInt_inj, Int32.reduceToInt, nI_toInt] at c3JVcanBeAimedAt m1; done)
          | (exfalso; simp (disch := omega) only [Int32.lt_iff_toInt_lt, Int32.le_iff_toInt_le, ← Int32.toInt_inj, Int32.reduceToInt, nI_toInt] at c3JVcanBeAimedAt m1; omega)
      · refine jr_iload rfl rfl ?_
        refine jr_ic rfl ?_
        refine jr_aload rfl rfl ?_
        refine jr_cv0 (mc' := 0) (ms' := 0) rfl jm_MD_personMany_n jm_MD_personMany_f rfl rfl rfl rfl rfl rfl rfl (Nat.zero_le _) (Nat.zero_le _) ?_
        show jx_W (jm_MD_personMany, _, _, _, _, _, _) _ 0 0 0 [some _] [] _
        refine jr_aload rfl rfl ?_
        refine jr_getR rfl rfl rfl rfl (Or.inl rfl) ?_
        refine jr_aload rfl rfl ?_
        refine jr_getI rfl rfl ?_
        refine jr_iald (len := 2) rfl rfl hw.1 (by omega) ?_
        refine jr_iret rfl rfl (Nat.zero_le _) (Nat.zero_le _) ?_
        refine jr_ishl rfl ?_
        refine jr_icmp_ge rfl (fun m7 => ?_) (fun m7 => ?_)
        · refine jr_ic rfl ?_
          refine jr_iret rfl rfl (Nat.zero_le _) (Nat.zero_le _) ?_
          first
            | exact ⟨rfl, hRel0⟩
            | (exfalso; omega)
            | (exfalso; simp (disch := omega) only [Int32.lt_iff_toInt_lt, Int32.le_iff_toInt_le, ← Int32.toInt_inj, Int32.reduceToInt, nI_toInt] at c3JVcanBeAimedAt m1 m7; done)
            | (exfalso; simp (disch := omega) only [Int32.lt_iff_toInt_lt, Int32.le_iff_toInt_le, ← Int32.toInt_inj, Int32.reduceToInt, nI_toInt] at c3JVcanBeAimedAt m1 m7; omega)
        · refine jr_aload rfl rfl ?_
          refine jr_iload rfl rfl ?_
          refine jr_cv1 (mc' := 0) (ms' := 0) rfl jm_MD_canTurnTo_n jm_MD_canTurnTo_f rfl rfl rfl rfl rfl rfl rfl (Nat.zero_le _) (Nat.zero_le _) ?_
          show jx_W (jm_MD_canTurnTo, _, _, _, _, _, _) _ 0 0 0 [some _, some _, none] [] _
          refine jr_aload rfl rfl ?_
          refine jr_cv0 (mc' := 0) (ms' := 0) rfl jm_MD_hasMonths_n jm_MD_hasMonths_f rfl rfl rfl rfl rfl rfl rfl (Nat.zero_le _) (Nat.zero_le _) ?_
          show jx_W (jm_MD_hasMonths, _, _, _, _, _, _) _ 0 0 0 [some _] [] _
          refine jr_aload rfl rfl ?_
          refine jr_getR rfl rfl rfl rfl (Or.inl rfl) ?_
          refine jr_aload rfl rfl ?_
          refine jr_getI rfl rfl ?_
          refine jr_iald (len := 2) rfl rfl hw.1 (by omega) ?_
          refine jr_if_le rfl (fun m5MDhasMonths => ?_) (fun m5MDhasMonths => ?_)
          · refine jr_ic rfl ?_
            refine jr_zret rfl rfl rfl (Nat.zero_le _) (Nat.zero_le _) ?_
            refine jr_if_eq rfl (fun _ => ?_) (fun z => absurd (by decide) z)
            refine jr_ic rfl ?_
            refine jr_zret rfl rfl rfl (Nat.zero_le _) (Nat.zero_le _) ?_
            refine jr_if_ne rfl (fun z => absurd (by decide) z) (fun _ => ?_)
            refine jr_ic rfl ?_
            refine jr_iret rfl rfl (Nat.zero_le _) (Nat.zero_le _) ?_
            first
              | exact ⟨rfl, hRel0⟩
              | (exfalso; omega)
              | (exfalso; simp (disch := omega) only [Int32.lt_iff_toInt_lt, Int32.le_iff_toInt_le, ← Int32.toInt_inj, Int32.reduceToInt, nI_toInt] at c3JVcanBeAimedAt m1 m7 m5MDhasMonths; done)
              | (exfalso; simp (disch := omega) only [Int32.lt_iff_toInt_lt, Int32.le_iff_toInt_le, ← Int32.toInt_inj, Int32.reduceToInt, nI_toInt] at c3JVcanBeAimedAt m1 m7 m5MDhasMonths; omega)
          · refine jr_ic rfl ?_
            refine jr_goto rfl ?_
            refine jr_zret rfl rfl rfl (Nat.zero_le _) (Nat.zero_le _) ?_
            refine jr_if_eq rfl (fun z => absurd z (by decide)) (fun _ => ?_)
            refine jr_iload rfl rfl ?_
            refine jr_ic rfl ?_
            refine jr_ic rfl ?_
            refine jr_cs3 (mc' := 0) (ms' := 0) rfl jm_MD_isIn_n jm_MD_isIn_f rfl rfl rfl rfl rfl (Nat.zero_le _) (Nat.zero_le _) ?_
            show jx_W (jm_MD_isIn, _, _, _, _, _, _) _ 0 0 0 [some _, some _, some _] [] _
            refine jr_iload rfl rfl ?_
            refine jr_iload rfl rfl ?_
            refine jr_icmp_lt rfl (fun m2MDisIn => ?_) (fun m2MDisIn => ?_)
            · refine jr_ic rfl ?_
              refine jr_zret rfl rfl rfl (Nat.zero_le _) (Nat.zero_le _) ?_
              refine jr_if_ne rfl (fun z => absurd (by decide) z) (fun _ => ?_)
              refine jr_ic rfl ?_
              refine jr_zret rfl rfl rfl (Nat.zero_le _) (Nat.zero_le _) ?_
              refine jr_if_ne rfl (fun z => absurd (by decide) z) (fun _ => ?_)
              refine jr_ic rfl ?_
              refine jr_iret rfl rfl (Nat.zero_le _) (Nat.zero_le _) ?_
              first
                | exact ⟨rfl, hRel0⟩
                | (exfalso; omega)
                | (exfalso; simp (disch := omega) only [Int32.lt_iff_toInt_lt, Int32.le_iff_toInt_le, ← Int32.toInt_inj, Int32.reduceToInt, nI_toInt] at c3JVcanBeAimedAt m1 m7 m5MDhasMonths m2MDisIn; done)
                | (exfalso; simp (disch := omega) only [Int32.lt_iff_toInt_lt, Int32.le_iff_toInt_le, ← Int32.toInt_inj, Int32.reduceToInt, nI_toInt] at c3JVcanBeAimedAt m1 m7 m5MDhasMonths m2MDisIn; omega)
            · refine jr_iload rfl rfl ?_
              refine jr_iload rfl rfl ?_
              refine jr_icmp_gt rfl (fun m5MDisIn => ?_) (fun m5MDisIn => ?_)
              · refine jr_ic rfl ?_
                refine jr_zret rfl rfl rfl (Nat.zero_le _) (Nat.zero_le _) ?_
                refine jr_if_ne rfl (fun z => absurd (by decide) z) (fun _ => ?_)
                refine jr_ic rfl ?_
                refine jr_zret rfl rfl rfl (Nat.zero_le _) (Nat.zero_le _) ?_
                refine jr_if_ne rfl (fun z => absurd (by decide) z) (fun _ => ?_)
                refine jr_ic rfl ?_
                refine jr_iret rfl rfl (Nat.zero_le _) (Nat.zero_le _) ?_
                first
                  | exact ⟨rfl, hRel0⟩
                  | (exfalso; omega)
                  | (exfalso; simp (disch := omega) only [Int32.lt_iff_toInt_lt, Int32.le_iff_toInt_le, ← Int32.toInt_inj, Int32.reduceToInt, nI_toInt] at c3JVcanBeAimedAt m1 m7 m5MDhasMonths m2MDisIn m5MDisIn; done)
                  | (exfalso; simp (disch := omega) only [Int32.lt_iff_toInt_lt, Int32.le_iff_toInt_le, ← Int32.toInt_inj, Int32.reduceToInt, nI_toInt] at c3JVcanBeAimedAt m1 m7 m5MDhasMonths m2MDisIn m5MDisIn; omega)
              · refine jr_ic rfl ?_
                refine jr_goto rfl ?_
                refine jr_zret rfl rfl rfl (Nat.zero_le _) (Nat.zero_le _) ?_
                refine jr_if_ne rfl (fun _ => ?_) (fun z => absurd z (by decide))
                refine jr_aload rfl rfl ?_
                refine jr_cv0 (mc' := 0) (ms' := 0) rfl jm_MD_layVotes_n jm_MD_layVotes_f rfl rfl rfl rfl rfl rfl rfl (Nat.zero_le _) (Nat.zero_le _) ?_
                first
                  | (exfalso; omega)
                  | (exfalso; simp (disch := omega) only [Int32.lt_iff_toInt_lt, Int32.le_iff_toInt_le, ← Int32.toInt_inj, Int32.reduceToInt, nI_toInt] at c3JVcanBeAimedAt m1 m7 m5MDhasMonths m2MDisIn m5MDisIn; done)
                  | (exfalso; simp (disch := omega) only [Int32.lt_iff_toInt_lt, Int32.le_iff_toInt_le, ← Int32.toInt_inj, Int32.reduceToInt, nI_toInt] at c3JVcanBeAimedAt m1 m7 m5MDhasMonths m2MDisIn m5MDisIn; omega)
  · have hn1 : 0 < jz_nm hm b := by
      rcases Nat.eq_zero_or_pos (jz_nm hm b) with e | e
      · rw [e] at hnm; exact absurd hnm.1 hmo
      · exact e
    show jx_W (jm_JV_turned, d + 40, 0, 0, false, 0, _) _ 0 0 0 [some (jv_r 10 0), some (jv_i x), some (jv_i (nI i))] [] _
    refine jr_aload rfl rfl ?_
    refine jr_iload rfl rfl ?_
    refine jr_cv1 (mc' := 0) (ms' := 0) rfl jm_JV_canBeAimedAt_n jm_JV_canBeAimedAt_f rfl rfl rfl rfl rfl rfl rfl (Nat.zero_le _) (Nat.zero_le _) ?_
    show jx_W (jm_JV_canBeAimedAt, _, _, _, _, _, _) _ 0 0 0 [some _, some _] [] _
    refine jr_aload rfl rfl ?_
    refine jr_getM rfl rfl rfl rfl hto ?_
    refine jr_getI rfl rfl ?_
    refine jr_if_ne rfl (fun c3JVcanBeAimedAt => ?_) (fun c3JVcanBeAimedAt => ?_)
    · refine jr_aload rfl rfl ?_
      refine jr_getR rfl rfl rfl rfl (Or.inl rfl) ?_
      refine jr_aload rfl rfl ?_
      refine jr_getR rfl rfl rfl rfl (Or.inl rfl) ?_
      refine jr_cv1 (mc' := 0) (ms' := 0) rfl jm_Sway_begin_n jm_Sway_begin_f rfl rfl rfl rfl rfl rfl rfl (Nat.zero_le _) (Nat.zero_le _) ?_
      refine ev_Sway_begin hw hA hR hmo (fun S1 hS1 => ?_)
      refine jr_aload rfl rfl ?_
      refine jr_getR rfl rfl rfl rfl (Or.inl rfl) ?_
      refine jr_iload rfl rfl ?_
      refine jr_cv1 (mc' := 0) (ms' := 0) rfl jm_Poll_mayBe_n jm_Poll_mayBe_f rfl rfl rfl rfl rfl rfl rfl (Nat.zero_le _) (Nat.zero_le _) ?_
      refine ev_Poll_mayBe (l := i) (by omega) ?_
      rw [hS1.2.1 i (by omega), jw_mayb_if]
      refine jr_zret rfl rfl (by rcases jw_mayb_01 (h := hm) (b := b) (l := i) with e | e <;> rw [e] <;> rfl) (Nat.zero_le _) (Nat.zero_le _) ?_
      refine jr_if_eq rfl (fun c3 => ?_) (fun c3 => ?_)
      · refine jr_ic rfl ?_
        refine jr_iret rfl rfl (Nat.zero_le _) (Nat.zero_le _) ?_
        show jx_W (jm_MD_turned, d + 40, 0, 0, false, 1, _) _ 0 0 0 [some _, some _, some _] [] _
        refine jr_iload rfl rfl ?_
        refine jr_if_lt rfl (fun m1 => ?_) (fun m1 => ?_)
        · refine jr_ic rfl ?_
          refine jr_iret rfl rfl (Nat.zero_le _) (Nat.zero_le _) ?_
          first
            | (have q := jz_Rel_p (S := S1) (k := 0 + 1) (S' := fun x => jh_I hm x 0) hRel0 (fun _ _ => rfl); rw [jS_self] at q; exact ⟨rfl, q⟩)
            | (have q := jz_Rel_p (S := S3) (k := 0 + 1) (S' := fun x => jh_I hm x 0) hRel0 (fun _ _ => rfl); rw [jS_self] at q; exact ⟨rfl, q⟩)
            | exact ⟨rfl, (jz_Rel_p hRel0 hS3)⟩
            | exact ⟨rfl, (jz_Rel_p hRel0 hS2)⟩
            | exact ⟨rfl, hRel0⟩
            | (exfalso; omega)
            | (exfalso; simp (disch := omega) only [Int32.lt_iff_toInt_lt, Int32.le_iff_toInt_le, ← Int32.toInt_inj, Int32.reduceToInt, nI_toInt] at c3JVcanBeAimedAt c3 m1; done)
            | (exfalso; simp (disch := omega) only [Int32.lt_iff_toInt_lt, Int32.le_iff_toInt_le, ← Int32.toInt_inj, Int32.reduceToInt, nI_toInt] at c3JVcanBeAimedAt c3 m1; omega)
        · refine jr_iload rfl rfl ?_
          refine jr_ic rfl ?_
          refine jr_aload rfl rfl ?_
          refine jr_cv0 (mc' := 0) (ms' := 0) rfl jm_MD_personMany_n jm_MD_personMany_f rfl rfl rfl rfl rfl rfl rfl (Nat.zero_le _) (Nat.zero_le _) ?_
          show jx_W (jm_MD_personMany, _, _, _, _, _, _) _ 0 0 0 [some _] [] _
          refine jr_aload rfl rfl ?_
          refine jr_getR rfl rfl rfl rfl (Or.inl rfl) ?_
          refine jr_aload rfl rfl ?_
          refine jr_getI rfl rfl ?_
          refine jr_iald (len := 2) rfl rfl hw.1 (by omega) ?_
          refine jr_iret rfl rfl (Nat.zero_le _) (Nat.zero_le _) ?_
          refine jr_ishl rfl ?_
          rw [es2]
          refine jr_icmp_ge rfl (fun m7 => ?_) (fun m7 => ?_)
          · refine jr_ic rfl ?_
            refine jr_iret rfl rfl (Nat.zero_le _) (Nat.zero_le _) ?_
            first
              | (have q := jz_Rel_p (S := S1) (k := 0 + 1) (S' := fun x => jh_I hm x 0) hRel0 (fun _ _ => rfl); rw [jS_self] at q; exact ⟨rfl, q⟩)
              | (have q := jz_Rel_p (S := S3) (k := 0 + 1) (S' := fun x => jh_I hm x 0) hRel0 (fun _ _ => rfl); rw [jS_self] at q; exact ⟨rfl, q⟩)
              | exact ⟨rfl, (jz_Rel_p hRel0 hS3)⟩
              | exact ⟨rfl, (jz_Rel_p hRel0 hS2)⟩
              | exact ⟨rfl, hRel0⟩
              | (exfalso; omega)
              | (exfalso; simp (disch := omega) only [Int32.lt_iff_toInt_lt, Int32.le_iff_toInt_le, ← Int32.toInt_inj, Int32.reduceToInt, nI_toInt] at c3JVcanBeAimedAt c3 m1 m7; done)
              | (exfalso; simp (disch := omega) only [Int32.lt_iff_toInt_lt, Int32.le_iff_toInt_le, ← Int32.toInt_inj, Int32.reduceToInt, nI_toInt] at c3JVcanBeAimedAt c3 m1 m7; omega)
          · refine jr_aload rfl rfl ?_
            refine jr_iload rfl rfl ?_
            refine jr_cv1 (mc' := 0) (ms' := 0) rfl jm_MD_canTurnTo_n jm_MD_canTurnTo_f rfl rfl rfl rfl rfl rfl rfl (Nat.zero_le _) (Nat.zero_le _) ?_
            refine eB_canT hw hmo (by omega) (fun S2 hS2 hM2 hV2 => ?_)
            refine jr_if_ne rfl (fun m11 => ?_) (fun m11 => ?_)
            · refine jr_aload rfl rfl ?_
              refine jr_iload rfl rfl ?_
              refine jr_iload rfl rfl ?_
              refine jr_cv2 (mc' := 0) (ms' := 0) rfl jm_MD_isTurnedBy_n jm_MD_isTurnedBy_f rfl rfl rfl rfl rfl rfl rfl (Nat.zero_le _) (Nat.zero_le _) ?_
              refine eS_isT hw hS2 hmo (by omega) hM2 (fun p hp => (hV2 p hp).1) (fun S3 hS3 f3 => ?_)
              refine jr_if_eq rfl (fun m18 => ?_) (fun m18 => ?_)
              · refine jr_ic rfl ?_
                refine jr_iret rfl rfl (Nat.zero_le _) (Nat.zero_le _) ?_
                first
                  | (have q := jz_Rel_p (S := S1) (k := 0 + 1) (S' := fun x => jh_I hm x 0) hRel0 (fun _ _ => rfl); rw [jS_self] at q; exact ⟨rfl, q⟩)
                  | (have q := jz_Rel_p (S := S3) (k := 0 + 1) (S' := fun x => jh_I hm x 0) hRel0 (fun _ _ => rfl); rw [jS_self] at q; exact ⟨rfl, q⟩)
                  | exact ⟨rfl, (jz_Rel_p hRel0 hS3)⟩
                  | exact ⟨rfl, (jz_Rel_p hRel0 hS2)⟩
                  | exact ⟨rfl, hRel0⟩
                  | (exfalso; omega)
                  | (exfalso; simp (disch := omega) only [Int32.lt_iff_toInt_lt, Int32.le_iff_toInt_le, ← Int32.toInt_inj, Int32.reduceToInt, nI_toInt] at c3JVcanBeAimedAt c3 m1 m7 m11 m18; done)
                  | (exfalso; simp (disch := omega) only [Int32.lt_iff_toInt_lt, Int32.le_iff_toInt_le, ← Int32.toInt_inj, Int32.reduceToInt, nI_toInt] at c3JVcanBeAimedAt c3 m1 m7 m11 m18; omega)
              · refine jr_ic rfl ?_
                refine jr_goto rfl ?_
                refine jr_iret rfl rfl (Nat.zero_le _) (Nat.zero_le _) ?_
                first
                  | (have q := jz_Rel_p (S := S1) (k := 0 + 1) (S' := fun x => jh_I hm x 0) hRel0 (fun _ _ => rfl); rw [jS_self] at q; exact ⟨rfl, q⟩)
                  | (have q := jz_Rel_p (S := S3) (k := 0 + 1) (S' := fun x => jh_I hm x 0) hRel0 (fun _ _ => rfl); rw [jS_self] at q; exact ⟨rfl, q⟩)
                  | exact ⟨rfl, (jz_Rel_p hRel0 hS3)⟩
                  | exact ⟨rfl, (jz_Rel_p hRel0 hS2)⟩
                  | exact ⟨rfl, hRel0⟩
                  | (exfalso; omega)
                  | (exfalso; simp (disch := omega) only [Int32.lt_iff_toInt_lt, Int32.le_iff_toInt_le, ← Int32.toInt_inj, Int32.reduceToInt, nI_toInt] at c3JVcanBeAimedAt c3 m1 m7 m11 m18; done)
                  | (exfalso; simp (disch := omega) only [Int32.lt_iff_toInt_lt, Int32.le_iff_toInt_le, ← Int32.toInt_inj, Int32.reduceToInt, nI_toInt] at c3JVcanBeAimedAt c3 m1 m7 m11 m18; omega)
            · refine jr_ic rfl ?_
              refine jr_iret rfl rfl (Nat.zero_le _) (Nat.zero_le _) ?_
              first
                | (have q := jz_Rel_p (S := S1) (k := 0 + 1) (S' := fun x => jh_I hm x 0) hRel0 (fun _ _ => rfl); rw [jS_self] at q; exact ⟨rfl, q⟩)
                | (have q := jz_Rel_p (S := S3) (k := 0 + 1) (S' := fun x => jh_I hm x 0) hRel0 (fun _ _ => rfl); rw [jS_self] at q; exact ⟨rfl, q⟩)
                | exact ⟨rfl, (jz_Rel_p hRel0 hS3)⟩
                | exact ⟨rfl, (jz_Rel_p hRel0 hS2)⟩
                | exact ⟨rfl, hRel0⟩
                | (exfalso; omega)
                | (exfalso; simp (disch := omega) only [Int32.lt_iff_toInt_lt, Int32.le_iff_toInt_le, ← Int32.toInt_inj, Int32.reduceToInt, nI_toInt] at c3JVcanBeAimedAt c3 m1 m7 m11; done)
                | (exfalso; simp (disch := omega) only [Int32.lt_iff_toInt_lt, Int32.le_iff_toInt_le, ← Int32.toInt_inj, Int32.reduceToInt, nI_toInt] at c3JVcanBeAimedAt c3 m1 m7 m11; omega)
      · refine jr_iload rfl rfl ?_
        refine jr_aload rfl rfl ?_
        refine jr_getM rfl rfl rfl rfl hto ?_
        refine jr_getI rfl rfl ?_
        refine jr_cs2 (mc' := 0) (ms' := 0) rfl jm_JV_isSet_n jm_JV_isSet_f rfl rfl rfl rfl rfl (Nat.zero_le _) (Nat.zero_le _) ?_
        show jx_W (jm_JV_isSet, _, _, _, _, _, _) _ 0 0 0 [some _, some _] [] _
        refine jr_iload rfl rfl ?_
        refine jr_if_lt rfl (fun c1JVisSet => ?_) (fun c1JVisSet => ?_)
        · refine jr_ic rfl ?_
          refine jr_zret rfl rfl rfl (Nat.zero_le _) (Nat.zero_le _) ?_
          refine jr_if_ne rfl (fun z => absurd (by decide) z) (fun _ => ?_)
          refine jr_ic rfl ?_
          refine jr_iret rfl rfl (Nat.zero_le _) (Nat.zero_le _) ?_
          show jx_W (jm_MD_turned, d + 40, 0, 0, false, 1, _) _ 0 0 0 [some _, some _, some _] [] _
          refine jr_iload rfl rfl ?_
          refine jr_if_lt rfl (fun m1 => ?_) (fun m1 => ?_)
          · refine jr_ic rfl ?_
            refine jr_iret rfl rfl (Nat.zero_le _) (Nat.zero_le _) ?_
            first
              | (have q := jz_Rel_p (S := S1) (k := 0 + 1) (S' := fun x => jh_I hm x 0) hRel0 (fun _ _ => rfl); rw [jS_self] at q; exact ⟨rfl, q⟩)
              | (have q := jz_Rel_p (S := S3) (k := 0 + 1) (S' := fun x => jh_I hm x 0) hRel0 (fun _ _ => rfl); rw [jS_self] at q; exact ⟨rfl, q⟩)
              | exact ⟨rfl, (jz_Rel_p hRel0 hS3)⟩
              | exact ⟨rfl, (jz_Rel_p hRel0 hS2)⟩
              | exact ⟨rfl, hRel0⟩
              | (exfalso; omega)
              | (exfalso; simp (disch := omega) only [Int32.lt_iff_toInt_lt, Int32.le_iff_toInt_le, ← Int32.toInt_inj, Int32.reduceToInt, nI_toInt] at c3JVcanBeAimedAt c3 c1JVisSet m1; done)
              | (exfalso; simp (disch := omega) only [Int32.lt_iff_toInt_lt, Int32.le_iff_toInt_le, ← Int32.toInt_inj, Int32.reduceToInt, nI_toInt] at c3JVcanBeAimedAt c3 c1JVisSet m1; omega)
          · refine jr_iload rfl rfl ?_
            refine jr_ic rfl ?_
            refine jr_aload rfl rfl ?_
            refine jr_cv0 (mc' := 0) (ms' := 0) rfl jm_MD_personMany_n jm_MD_personMany_f rfl rfl rfl rfl rfl rfl rfl (Nat.zero_le _) (Nat.zero_le _) ?_
            show jx_W (jm_MD_personMany, _, _, _, _, _, _) _ 0 0 0 [some _] [] _
            refine jr_aload rfl rfl ?_
            refine jr_getR rfl rfl rfl rfl (Or.inl rfl) ?_
            refine jr_aload rfl rfl ?_
            refine jr_getI rfl rfl ?_
            refine jr_iald (len := 2) rfl rfl hw.1 (by omega) ?_
            refine jr_iret rfl rfl (Nat.zero_le _) (Nat.zero_le _) ?_
            refine jr_ishl rfl ?_
            rw [es2]
            refine jr_icmp_ge rfl (fun m7 => ?_) (fun m7 => ?_)
            · refine jr_ic rfl ?_
              refine jr_iret rfl rfl (Nat.zero_le _) (Nat.zero_le _) ?_
              first
                | (have q := jz_Rel_p (S := S1) (k := 0 + 1) (S' := fun x => jh_I hm x 0) hRel0 (fun _ _ => rfl); rw [jS_self] at q; exact ⟨rfl, q⟩)
                | (have q := jz_Rel_p (S := S3) (k := 0 + 1) (S' := fun x => jh_I hm x 0) hRel0 (fun _ _ => rfl); rw [jS_self] at q; exact ⟨rfl, q⟩)
                | exact ⟨rfl, (jz_Rel_p hRel0 hS3)⟩
                | exact ⟨rfl, (jz_Rel_p hRel0 hS2)⟩
                | exact ⟨rfl, hRel0⟩
                | (exfalso; omega)
                | (exfalso; simp (disch := omega) only [Int32.lt_iff_toInt_lt, Int32.le_iff_toInt_le, ← Int32.toInt_inj, Int32.reduceToInt, nI_toInt] at c3JVcanBeAimedAt c3 c1JVisSet m1 m7; done)
                | (exfalso; simp (disch := omega) only [Int32.lt_iff_toInt_lt, Int32.le_iff_toInt_le, ← Int32.toInt_inj, Int32.reduceToInt, nI_toInt] at c3JVcanBeAimedAt c3 c1JVisSet m1 m7; omega)
            · refine jr_aload rfl rfl ?_
              refine jr_iload rfl rfl ?_
              refine jr_cv1 (mc' := 0) (ms' := 0) rfl jm_MD_canTurnTo_n jm_MD_canTurnTo_f rfl rfl rfl rfl rfl rfl rfl (Nat.zero_le _) (Nat.zero_le _) ?_
              refine eB_canT hw hmo (by omega) (fun S2 hS2 hM2 hV2 => ?_)
              refine jr_if_ne rfl (fun m11 => ?_) (fun m11 => ?_)
              · refine jr_aload rfl rfl ?_
                refine jr_iload rfl rfl ?_
                refine jr_iload rfl rfl ?_
                refine jr_cv2 (mc' := 0) (ms' := 0) rfl jm_MD_isTurnedBy_n jm_MD_isTurnedBy_f rfl rfl rfl rfl rfl rfl rfl (Nat.zero_le _) (Nat.zero_le _) ?_
                refine eS_isT hw hS2 hmo (by omega) hM2 (fun p hp => (hV2 p hp).1) (fun S3 hS3 f3 => ?_)
                refine jr_if_eq rfl (fun m18 => ?_) (fun m18 => ?_)
                · refine jr_ic rfl ?_
                  refine jr_iret rfl rfl (Nat.zero_le _) (Nat.zero_le _) ?_
                  first
                    | (have q := jz_Rel_p (S := S1) (k := 0 + 1) (S' := fun x => jh_I hm x 0) hRel0 (fun _ _ => rfl); rw [jS_self] at q; exact ⟨rfl, q⟩)
                    | (have q := jz_Rel_p (S := S3) (k := 0 + 1) (S' := fun x => jh_I hm x 0) hRel0 (fun _ _ => rfl); rw [jS_self] at q; exact ⟨rfl, q⟩)
                    | exact ⟨rfl, (jz_Rel_p hRel0 hS3)⟩
                    | exact ⟨rfl, (jz_Rel_p hRel0 hS2)⟩
                    | exact ⟨rfl, hRel0⟩
                    | (exfalso; omega)
                    | (exfalso; simp (disch := omega) only [Int32.lt_iff_toInt_lt, Int32.le_iff_toInt_le, ← Int32.toInt_inj, Int32.reduceToInt, nI_toInt] at c3JVcanBeAimedAt c3 c1JVisSet m1 m7 m11 m18; done)
                    | (exfalso; simp (disch := omega) only [Int32.lt_iff_toInt_lt, Int32.le_iff_toInt_le, ← Int32.toInt_inj, Int32.reduceToInt, nI_toInt] at c3JVcanBeAimedAt c3 c1JVisSet m1 m7 m11 m18; omega)
                · refine jr_ic rfl ?_
                  refine jr_goto rfl ?_
                  refine jr_iret rfl rfl (Nat.zero_le _) (Nat.zero_le _) ?_
                  first
                    | (have q := jz_Rel_p (S := S1) (k := 0 + 1) (S' := fun x => jh_I hm x 0) hRel0 (fun _ _ => rfl); rw [jS_self] at q; exact ⟨rfl, q⟩)
                    | (have q := jz_Rel_p (S := S3) (k := 0 + 1) (S' := fun x => jh_I hm x 0) hRel0 (fun _ _ => rfl); rw [jS_self] at q; exact ⟨rfl, q⟩)
                    | exact ⟨rfl, (jz_Rel_p hRel0 hS3)⟩
                    | exact ⟨rfl, (jz_Rel_p hRel0 hS2)⟩
                    | exact ⟨rfl, hRel0⟩
                    | (exfalso; omega)
                    | (exfalso; simp (disch := omega) only [Int32.lt_iff_toInt_lt, Int32.le_iff_toInt_le, ← Int32.toInt_inj, Int32.reduceToInt, nI_toInt] at c3JVcanBeAimedAt c3 c1JVisSet m1 m7 m11 m18; done)
                    | (exfalso; simp (disch := omega) only [Int32.lt_iff_toInt_lt, Int32.le_iff_toInt_le, ← Int32.toInt_inj, Int32.reduceToInt, nI_toInt] at c3JVcanBeAimedAt c3 c1JVisSet m1 m7 m11 m18; omega)
              · refine jr_ic rfl ?_
                refine jr_iret rfl rfl (Nat.zero_le _) (Nat.zero_le _) ?_
                first
                  | (have q := jz_Rel_p (S := S1) (k := 0 + 1) (S' := fun x => jh_I hm x 0) hRel0 (fun _ _ => rfl); rw [jS_self] at q; exact ⟨rfl, q⟩)
                  | (have q := jz_Rel_p (S := S3) (k := 0 + 1) (S' := fun x => jh_I hm x 0) hRel0 (fun _ _ => rfl); rw [jS_self] at q; exact ⟨rfl, q⟩)
                  | exact ⟨rfl, (jz_Rel_p hRel0 hS3)⟩
                  | exact ⟨rfl, (jz_Rel_p hRel0 hS2)⟩
                  | exact ⟨rfl, hRel0⟩
                  | (exfalso; omega)
                  | (exfalso; simp (disch := omega) only [Int32.lt_iff_toInt_lt, Int32.le_iff_toInt_le, ← Int32.toInt_inj, Int32.reduceToInt, nI_toInt] at c3JVcanBeAimedAt c3 c1JVisSet m1 m7 m11; done)
                  | (exfalso; simp (disch := omega) only [Int32.lt_iff_toInt_lt, Int32.le_iff_toInt_le, ← Int32.toInt_inj, Int32.reduceToInt, nI_toInt] at c3JVcanBeAimedAt c3 c1JVisSet m1 m7 m11; omega)
        · refine jr_iload rfl rfl ?_
          refine jr_ic rfl ?_
          refine jr_iload rfl rfl ?_
          refine jr_ishl rfl ?_
          rw [show ((1 : Int32) <<< (jh_I (jP hc S1 (0 + 1)) 7 r 3 &&& 31)) = nI (2 ^ jz_np hm b) from es1]
          refine jr_icmp_ge rfl (fun c6JVisSet => ?_) (fun c6JVisSet => ?_)
          · refine jr_ic rfl ?_
            refine jr_zret rfl rfl rfl (Nat.zero_le _) (Nat.zero_le _) ?_
            refine jr_if_ne rfl (fun z => absurd (by decide) z) (fun _ => ?_)
            refine jr_ic rfl ?_
            refine jr_iret rfl rfl (Nat.zero_le _) (Nat.zero_le _) ?_
            show jx_W (jm_MD_turned, d + 40, 0, 0, false, 1, _) _ 0 0 0 [some _, some _, some _] [] _
            refine jr_iload rfl rfl ?_
            refine jr_if_lt rfl (fun m1 => ?_) (fun m1 => ?_)
            · refine jr_ic rfl ?_
              refine jr_iret rfl rfl (Nat.zero_le _) (Nat.zero_le _) ?_
              first
                | (have q := jz_Rel_p (S := S1) (k := 0 + 1) (S' := fun x => jh_I hm x 0) hRel0 (fun _ _ => rfl); rw [jS_self] at q; exact ⟨rfl, q⟩)
                | (have q := jz_Rel_p (S := S3) (k := 0 + 1) (S' := fun x => jh_I hm x 0) hRel0 (fun _ _ => rfl); rw [jS_self] at q; exact ⟨rfl, q⟩)
                | exact ⟨rfl, (jz_Rel_p hRel0 hS3)⟩
                | exact ⟨rfl, (jz_Rel_p hRel0 hS2)⟩
                | exact ⟨rfl, hRel0⟩
                | (exfalso; omega)
                | (exfalso; simp (disch := omega) only [Int32.lt_iff_toInt_lt, Int32.le_iff_toInt_le, ← Int32.toInt_inj, Int32.reduceToInt, nI_toInt] at c3JVcanBeAimedAt c3 c1JVisSet c6JVisSet m1; done)
                | (exfalso; simp (disch := omega) only [Int32.lt_iff_toInt_lt, Int32.le_iff_toInt_le, ← Int32.toInt_inj, Int32.reduceToInt, nI_toInt] at c3JVcanBeAimedAt c3 c1JVisSet c6JVisSet m1; omega)
            · refine jr_iload rfl rfl ?_
              refine jr_ic rfl ?_
              refine jr_aload rfl rfl ?_
              refine jr_cv0 (mc' := 0) (ms' := 0) rfl jm_MD_personMany_n jm_MD_personMany_f rfl rfl rfl rfl rfl rfl rfl (Nat.zero_le _) (Nat.zero_le _) ?_
              show jx_W (jm_MD_personMany, _, _, _, _, _, _) _ 0 0 0 [some _] [] _
              refine jr_aload rfl rfl ?_
              refine jr_getR rfl rfl rfl rfl (Or.inl rfl) ?_
              refine jr_aload rfl rfl ?_
              refine jr_getI rfl rfl ?_
              refine jr_iald (len := 2) rfl rfl hw.1 (by omega) ?_
              refine jr_iret rfl rfl (Nat.zero_le _) (Nat.zero_le _) ?_
              refine jr_ishl rfl ?_
              rw [es2]
              refine jr_icmp_ge rfl (fun m7 => ?_) (fun m7 => ?_)
              · refine jr_ic rfl ?_
                refine jr_iret rfl rfl (Nat.zero_le _) (Nat.zero_le _) ?_
                first
                  | (have q := jz_Rel_p (S := S1) (k := 0 + 1) (S' := fun x => jh_I hm x 0) hRel0 (fun _ _ => rfl); rw [jS_self] at q; exact ⟨rfl, q⟩)
                  | (have q := jz_Rel_p (S := S3) (k := 0 + 1) (S' := fun x => jh_I hm x 0) hRel0 (fun _ _ => rfl); rw [jS_self] at q; exact ⟨rfl, q⟩)
                  | exact ⟨rfl, (jz_Rel_p hRel0 hS3)⟩
                  | exact ⟨rfl, (jz_Rel_p hRel0 hS2)⟩
                  | exact ⟨rfl, hRel0⟩
                  | (exfalso; omega)
                  | (exfalso; simp (disch := omega) only [Int32.lt_iff_toInt_lt, Int32.le_iff_toInt_le, ← Int32.toInt_inj, Int32.reduceToInt, nI_toInt] at c3JVcanBeAimedAt c3 c1JVisSet c6JVisSet m1 m7; done)
                  | (exfalso; simp (disch := omega) only [Int32.lt_iff_toInt_lt, Int32.le_iff_toInt_le, ← Int32.toInt_inj, Int32.reduceToInt, nI_toInt] at c3JVcanBeAimedAt c3 c1JVisSet c6JVisSet m1 m7; omega)
              · refine jr_aload rfl rfl ?_
                refine jr_iload rfl rfl ?_
                refine jr_cv1 (mc' := 0) (ms' := 0) rfl jm_MD_canTurnTo_n jm_MD_canTurnTo_f rfl rfl rfl rfl rfl rfl rfl (Nat.zero_le _) (Nat.zero_le _) ?_
                refine eB_canT hw hmo (by omega) (fun S2 hS2 hM2 hV2 => ?_)
                refine jr_if_ne rfl (fun m11 => ?_) (fun m11 => ?_)
                · refine jr_aload rfl rfl ?_
                  refine jr_iload rfl rfl ?_
                  refine jr_iload rfl rfl ?_
                  refine jr_cv2 (mc' := 0) (ms' := 0) rfl jm_MD_isTurnedBy_n jm_MD_isTurnedBy_f rfl rfl rfl rfl rfl rfl rfl (Nat.zero_le _) (Nat.zero_le _) ?_
                  refine eS_isT hw hS2 hmo (by omega) hM2 (fun p hp => (hV2 p hp).1) (fun S3 hS3 f3 => ?_)
                  refine jr_if_eq rfl (fun m18 => ?_) (fun m18 => ?_)
                  · refine jr_ic rfl ?_
                    refine jr_iret rfl rfl (Nat.zero_le _) (Nat.zero_le _) ?_
                    first
                      | (have q := jz_Rel_p (S := S1) (k := 0 + 1) (S' := fun x => jh_I hm x 0) hRel0 (fun _ _ => rfl); rw [jS_self] at q; exact ⟨rfl, q⟩)
                      | (have q := jz_Rel_p (S := S3) (k := 0 + 1) (S' := fun x => jh_I hm x 0) hRel0 (fun _ _ => rfl); rw [jS_self] at q; exact ⟨rfl, q⟩)
                      | exact ⟨rfl, (jz_Rel_p hRel0 hS3)⟩
                      | exact ⟨rfl, (jz_Rel_p hRel0 hS2)⟩
                      | exact ⟨rfl, hRel0⟩
                      | (exfalso; omega)
                      | (exfalso; simp (disch := omega) only [Int32.lt_iff_toInt_lt, Int32.le_iff_toInt_le, ← Int32.toInt_inj, Int32.reduceToInt, nI_toInt] at c3JVcanBeAimedAt c3 c1JVisSet c6JVisSet m1 m7 m11 m18; done)
                      | (exfalso; simp (disch := omega) only [Int32.lt_iff_toInt_lt, Int32.le_iff_toInt_le, ← Int32.toInt_inj, Int32.reduceToInt, nI_toInt] at c3JVcanBeAimedAt c3 c1JVisSet c6JVisSet m1 m7 m11 m18; omega)
                  · refine jr_ic rfl ?_
                    refine jr_goto rfl ?_
                    refine jr_iret rfl rfl (Nat.zero_le _) (Nat.zero_le _) ?_
                    first
                      | (have q := jz_Rel_p (S := S1) (k := 0 + 1) (S' := fun x => jh_I hm x 0) hRel0 (fun _ _ => rfl); rw [jS_self] at q; exact ⟨rfl, q⟩)
                      | (have q := jz_Rel_p (S := S3) (k := 0 + 1) (S' := fun x => jh_I hm x 0) hRel0 (fun _ _ => rfl); rw [jS_self] at q; exact ⟨rfl, q⟩)
                      | exact ⟨rfl, (jz_Rel_p hRel0 hS3)⟩
                      | exact ⟨rfl, (jz_Rel_p hRel0 hS2)⟩
                      | exact ⟨rfl, hRel0⟩
                      | (exfalso; omega)
                      | (exfalso; simp (disch := omega) only [Int32.lt_iff_toInt_lt, Int32.le_iff_toInt_le, ← Int32.toInt_inj, Int32.reduceToInt, nI_toInt] at c3JVcanBeAimedAt c3 c1JVisSet c6JVisSet m1 m7 m11 m18; done)
                      | (exfalso; simp (disch := omega) only [Int32.lt_iff_toInt_lt, Int32.le_iff_toInt_le, ← Int32.toInt_inj, Int32.reduceToInt, nI_toInt] at c3JVcanBeAimedAt c3 c1JVisSet c6JVisSet m1 m7 m11 m18; omega)
                · refine jr_ic rfl ?_
                  refine jr_iret rfl rfl (Nat.zero_le _) (Nat.zero_le _) ?_
                  first
                    | (have q := jz_Rel_p (S := S1) (k := 0 + 1) (S' := fun x => jh_I hm x 0) hRel0 (fun _ _ => rfl); rw [jS_self] at q; exact ⟨rfl, q⟩)
                    | (have q := jz_Rel_p (S := S3) (k := 0 + 1) (S' := fun x => jh_I hm x 0) hRel0 (fun _ _ => rfl); rw [jS_self] at q; exact ⟨rfl, q⟩)
                    | exact ⟨rfl, (jz_Rel_p hRel0 hS3)⟩
                    | exact ⟨rfl, (jz_Rel_p hRel0 hS2)⟩
                    | exact ⟨rfl, hRel0⟩
                    | (exfalso; omega)
                    | (exfalso; simp (disch := omega) only [Int32.lt_iff_toInt_lt, Int32.le_iff_toInt_le, ← Int32.toInt_inj, Int32.reduceToInt, nI_toInt] at c3JVcanBeAimedAt c3 c1JVisSet c6JVisSet m1 m7 m11; done)
                    | (exfalso; simp (disch := omega) only [Int32.lt_iff_toInt_lt, Int32.le_iff_toInt_le, ← Int32.toInt_inj, Int32.reduceToInt, nI_toInt] at c3JVcanBeAimedAt c3 c1JVisSet c6JVisSet m1 m7 m11; omega)
          · refine jr_ic rfl ?_
            refine jr_goto rfl ?_
            refine jr_zret rfl rfl rfl (Nat.zero_le _) (Nat.zero_le _) ?_
            refine jr_if_ne rfl (fun _ => ?_) (fun z => absurd z (by decide))
            refine jr_aload rfl rfl ?_
            refine jr_getR rfl rfl rfl rfl (Or.inl rfl) ?_
            refine jr_iload rfl rfl ?_
            refine jr_iload rfl rfl ?_
            refine jr_cv2 (mc' := 0) (ms' := 0) rfl jm_Sway_turns_n jm_Sway_turns_f rfl rfl rfl rfl rfl rfl rfl (Nat.zero_le _) (Nat.zero_le _) ?_
            refine ev_turns hw hA hR hmo hS1 (by omega) (fun S3 f3 => ?_)
            refine jr_if_eq rfl (fun c17 => ?_) (fun c17 => ?_)
            · refine jr_ic rfl ?_
              refine jr_iret rfl rfl (Nat.zero_le _) (Nat.zero_le _) ?_
              show jx_W (jm_MD_turned, d + 40, 0, 0, false, 1, _) _ 0 0 0 [some _, some _, some _] [] _
              refine jr_iload rfl rfl ?_
              refine jr_if_lt rfl (fun m1 => ?_) (fun m1 => ?_)
              · refine jr_ic rfl ?_
                refine jr_iret rfl rfl (Nat.zero_le _) (Nat.zero_le _) ?_
                first
                  | (have q := jz_Rel_p (S := S1) (k := 0 + 1) (S' := fun x => jh_I hm x 0) hRel0 (fun _ _ => rfl); rw [jS_self] at q; exact ⟨rfl, q⟩)
                  | (have q := jz_Rel_p (S := S3) (k := 0 + 1) (S' := fun x => jh_I hm x 0) hRel0 (fun _ _ => rfl); rw [jS_self] at q; exact ⟨rfl, q⟩)
                  | exact ⟨rfl, (jz_Rel_p hRel0 hS3)⟩
                  | exact ⟨rfl, (jz_Rel_p hRel0 hS2)⟩
                  | exact ⟨rfl, hRel0⟩
                  | (exfalso; omega)
                  | (exfalso; simp (disch := omega) only [Int32.lt_iff_toInt_lt, Int32.le_iff_toInt_le, ← Int32.toInt_inj, Int32.reduceToInt, nI_toInt] at c3JVcanBeAimedAt c3 c1JVisSet c6JVisSet c17 m1; done)
                  | (exfalso; simp (disch := omega) only [Int32.lt_iff_toInt_lt, Int32.le_iff_toInt_le, ← Int32.toInt_inj, Int32.reduceToInt, nI_toInt] at c3JVcanBeAimedAt c3 c1JVisSet c6JVisSet c17 m1; omega)
              · refine jr_iload rfl rfl ?_
                refine jr_ic rfl ?_
                refine jr_aload rfl rfl ?_
                refine jr_cv0 (mc' := 0) (ms' := 0) rfl jm_MD_personMany_n jm_MD_personMany_f rfl rfl rfl rfl rfl rfl rfl (Nat.zero_le _) (Nat.zero_le _) ?_
                show jx_W (jm_MD_personMany, _, _, _, _, _, _) _ 0 0 0 [some _] [] _
                refine jr_aload rfl rfl ?_
                refine jr_getR rfl rfl rfl rfl (Or.inl rfl) ?_
                refine jr_aload rfl rfl ?_
                refine jr_getI rfl rfl ?_
                refine jr_iald (len := 2) rfl rfl hw.1 (by omega) ?_
                refine jr_iret rfl rfl (Nat.zero_le _) (Nat.zero_le _) ?_
                refine jr_ishl rfl ?_
                rw [es2]
                refine jr_icmp_ge rfl (fun m7 => ?_) (fun m7 => ?_)
                · refine jr_ic rfl ?_
                  refine jr_iret rfl rfl (Nat.zero_le _) (Nat.zero_le _) ?_
                  first
                    | (have q := jz_Rel_p (S := S1) (k := 0 + 1) (S' := fun x => jh_I hm x 0) hRel0 (fun _ _ => rfl); rw [jS_self] at q; exact ⟨rfl, q⟩)
                    | (have q := jz_Rel_p (S := S3) (k := 0 + 1) (S' := fun x => jh_I hm x 0) hRel0 (fun _ _ => rfl); rw [jS_self] at q; exact ⟨rfl, q⟩)
                    | exact ⟨rfl, (jz_Rel_p hRel0 hS3)⟩
                    | exact ⟨rfl, (jz_Rel_p hRel0 hS2)⟩
                    | exact ⟨rfl, hRel0⟩
                    | (exfalso; omega)
                    | (exfalso; simp (disch := omega) only [Int32.lt_iff_toInt_lt, Int32.le_iff_toInt_le, ← Int32.toInt_inj, Int32.reduceToInt, nI_toInt] at c3JVcanBeAimedAt c3 c1JVisSet c6JVisSet c17 m1 m7; done)
                    | (exfalso; simp (disch := omega) only [Int32.lt_iff_toInt_lt, Int32.le_iff_toInt_le, ← Int32.toInt_inj, Int32.reduceToInt, nI_toInt] at c3JVcanBeAimedAt c3 c1JVisSet c6JVisSet c17 m1 m7; omega)
                · refine jr_aload rfl rfl ?_
                  refine jr_iload rfl rfl ?_
                  refine jr_cv1 (mc' := 0) (ms' := 0) rfl jm_MD_canTurnTo_n jm_MD_canTurnTo_f rfl rfl rfl rfl rfl rfl rfl (Nat.zero_le _) (Nat.zero_le _) ?_
                  refine eB_canT hw hmo (by omega) (fun S2 hS2 hM2 hV2 => ?_)
                  refine jr_if_ne rfl (fun m11 => ?_) (fun m11 => ?_)
                  · refine jr_aload rfl rfl ?_
                    refine jr_iload rfl rfl ?_
                    refine jr_iload rfl rfl ?_
                    refine jr_cv2 (mc' := 0) (ms' := 0) rfl jm_MD_isTurnedBy_n jm_MD_isTurnedBy_f rfl rfl rfl rfl rfl rfl rfl (Nat.zero_le _) (Nat.zero_le _) ?_
                    refine eS_isT hw hS2 hmo (by omega) hM2 (fun p hp => (hV2 p hp).1) (fun S3 hS3 f3 => ?_)
                    refine jr_if_eq rfl (fun m18 => ?_) (fun m18 => ?_)
                    · refine jr_ic rfl ?_
                      refine jr_iret rfl rfl (Nat.zero_le _) (Nat.zero_le _) ?_
                      first
                        | (have q := jz_Rel_p (S := S1) (k := 0 + 1) (S' := fun x => jh_I hm x 0) hRel0 (fun _ _ => rfl); rw [jS_self] at q; exact ⟨rfl, q⟩)
                        | (have q := jz_Rel_p (S := S3) (k := 0 + 1) (S' := fun x => jh_I hm x 0) hRel0 (fun _ _ => rfl); rw [jS_self] at q; exact ⟨rfl, q⟩)
                        | exact ⟨rfl, (jz_Rel_p hRel0 hS3)⟩
                        | exact ⟨rfl, (jz_Rel_p hRel0 hS2)⟩
                        | exact ⟨rfl, hRel0⟩
                        | (exfalso; omega)
                        | (exfalso; simp (disch := omega) only [Int32.lt_iff_toInt_lt, Int32.le_iff_toInt_le, ← Int32.toInt_inj, Int32.reduceToInt, nI_toInt] at c3JVcanBeAimedAt c3 c1JVisSet c6JVisSet c17 m1 m7 m11 m18; done)
                        | (exfalso; simp (disch := omega) only [Int32.lt_iff_toInt_lt, Int32.le_iff_toInt_le, ← Int32.toInt_inj, Int32.reduceToInt, nI_toInt] at c3JVcanBeAimedAt c3 c1JVisSet c6JVisSet c17 m1 m7 m11 m18; omega)
                    · refine jr_ic rfl ?_
                      refine jr_goto rfl ?_
                      refine jr_iret rfl rfl (Nat.zero_le _) (Nat.zero_le _) ?_
                      first
                        | (have q := jz_Rel_p (S := S1) (k := 0 + 1) (S' := fun x => jh_I hm x 0) hRel0 (fun _ _ => rfl); rw [jS_self] at q; exact ⟨rfl, q⟩)
                        | (have q := jz_Rel_p (S := S3) (k := 0 + 1) (S' := fun x => jh_I hm x 0) hRel0 (fun _ _ => rfl); rw [jS_self] at q; exact ⟨rfl, q⟩)
                        | exact ⟨rfl, (jz_Rel_p hRel0 hS3)⟩
                        | exact ⟨rfl, (jz_Rel_p hRel0 hS2)⟩
                        | exact ⟨rfl, hRel0⟩
                        | (exfalso; omega)
                        | (exfalso; simp (disch := omega) only [Int32.lt_iff_toInt_lt, Int32.le_iff_toInt_le, ← Int32.toInt_inj, Int32.reduceToInt, nI_toInt] at c3JVcanBeAimedAt c3 c1JVisSet c6JVisSet c17 m1 m7 m11 m18; done)
                        | (exfalso; simp (disch := omega) only [Int32.lt_iff_toInt_lt, Int32.le_iff_toInt_le, ← Int32.toInt_inj, Int32.reduceToInt, nI_toInt] at c3JVcanBeAimedAt c3 c1JVisSet c6JVisSet c17 m1 m7 m11 m18; omega)
                  · refine jr_ic rfl ?_
                    refine jr_iret rfl rfl (Nat.zero_le _) (Nat.zero_le _) ?_
                    first
                      | (have q := jz_Rel_p (S := S1) (k := 0 + 1) (S' := fun x => jh_I hm x 0) hRel0 (fun _ _ => rfl); rw [jS_self] at q; exact ⟨rfl, q⟩)
                      | (have q := jz_Rel_p (S := S3) (k := 0 + 1) (S' := fun x => jh_I hm x 0) hRel0 (fun _ _ => rfl); rw [jS_self] at q; exact ⟨rfl, q⟩)
                      | exact ⟨rfl, (jz_Rel_p hRel0 hS3)⟩
                      | exact ⟨rfl, (jz_Rel_p hRel0 hS2)⟩
                      | exact ⟨rfl, hRel0⟩
                      | (exfalso; omega)
                      | (exfalso; simp (disch := omega) only [Int32.lt_iff_toInt_lt, Int32.le_iff_toInt_le, ← Int32.toInt_inj, Int32.reduceToInt, nI_toInt] at c3JVcanBeAimedAt c3 c1JVisSet c6JVisSet c17 m1 m7 m11; done)
                      | (exfalso; simp (disch := omega) only [Int32.lt_iff_toInt_lt, Int32.le_iff_toInt_le, ← Int32.toInt_inj, Int32.reduceToInt, nI_toInt] at c3JVcanBeAimedAt c3 c1JVisSet c6JVisSet c17 m1 m7 m11; omega)
            · refine jr_ic rfl ?_
              refine jr_goto rfl ?_
              refine jr_iret rfl rfl (Nat.zero_le _) (Nat.zero_le _) ?_
              show jx_W (jm_MD_turned, d + 40, 0, 0, false, 1, _) _ 0 0 0 [some _, some _, some _] [] _
              refine jr_iload rfl rfl ?_
              refine jr_if_lt rfl (fun m1 => ?_) (fun m1 => ?_)
              · refine jr_ic rfl ?_
                refine jr_iret rfl rfl (Nat.zero_le _) (Nat.zero_le _) ?_
                first
                  | (have q := jz_Rel_p (S := S1) (k := 0 + 1) (S' := fun x => jh_I hm x 0) hRel0 (fun _ _ => rfl); rw [jS_self] at q; exact ⟨rfl, q⟩)
                  | (have q := jz_Rel_p (S := S3) (k := 0 + 1) (S' := fun x => jh_I hm x 0) hRel0 (fun _ _ => rfl); rw [jS_self] at q; exact ⟨rfl, q⟩)
                  | exact ⟨rfl, (jz_Rel_p hRel0 hS3)⟩
                  | exact ⟨rfl, (jz_Rel_p hRel0 hS2)⟩
                  | exact ⟨rfl, hRel0⟩
                  | (exfalso; omega)
                  | (exfalso; simp (disch := omega) only [Int32.lt_iff_toInt_lt, Int32.le_iff_toInt_le, ← Int32.toInt_inj, Int32.reduceToInt, nI_toInt] at c3JVcanBeAimedAt c3 c1JVisSet c6JVisSet c17 m1; done)
                  | (exfalso; simp (disch := omega) only [Int32.lt_iff_toInt_lt, Int32.le_iff_toInt_le, ← Int32.toInt_inj, Int32.reduceToInt, nI_toInt] at c3JVcanBeAimedAt c3 c1JVisSet c6JVisSet c17 m1; omega)
              · refine jr_iload rfl rfl ?_
                refine jr_ic rfl ?_
                refine jr_aload rfl rfl ?_
                refine jr_cv0 (mc' := 0) (ms' := 0) rfl jm_MD_personMany_n jm_MD_personMany_f rfl rfl rfl rfl rfl rfl rfl (Nat.zero_le _) (Nat.zero_le _) ?_
                show jx_W (jm_MD_personMany, _, _, _, _, _, _) _ 0 0 0 [some _] [] _
                refine jr_aload rfl rfl ?_
                refine jr_getR rfl rfl rfl rfl (Or.inl rfl) ?_
                refine jr_aload rfl rfl ?_
                refine jr_getI rfl rfl ?_
                refine jr_iald (len := 2) rfl rfl hw.1 (by omega) ?_
                refine jr_iret rfl rfl (Nat.zero_le _) (Nat.zero_le _) ?_
                refine jr_ishl rfl ?_
                rw [es2]
                refine jr_icmp_ge rfl (fun m7 => ?_) (fun m7 => ?_)
                · refine jr_ic rfl ?_
                  refine jr_iret rfl rfl (Nat.zero_le _) (Nat.zero_le _) ?_
                  first
                    | (have q := jz_Rel_p (S := S1) (k := 0 + 1) (S' := fun x => jh_I hm x 0) hRel0 (fun _ _ => rfl); rw [jS_self] at q; exact ⟨rfl, q⟩)
                    | (have q := jz_Rel_p (S := S3) (k := 0 + 1) (S' := fun x => jh_I hm x 0) hRel0 (fun _ _ => rfl); rw [jS_self] at q; exact ⟨rfl, q⟩)
                    | exact ⟨rfl, (jz_Rel_p hRel0 hS3)⟩
                    | exact ⟨rfl, (jz_Rel_p hRel0 hS2)⟩
                    | exact ⟨rfl, hRel0⟩
                    | (exfalso; omega)
                    | (exfalso; simp (disch := omega) only [Int32.lt_iff_toInt_lt, Int32.le_iff_toInt_le, ← Int32.toInt_inj, Int32.reduceToInt, nI_toInt] at c3JVcanBeAimedAt c3 c1JVisSet c6JVisSet c17 m1 m7; done)
                    | (exfalso; simp (disch := omega) only [Int32.lt_iff_toInt_lt, Int32.le_iff_toInt_le, ← Int32.toInt_inj, Int32.reduceToInt, nI_toInt] at c3JVcanBeAimedAt c3 c1JVisSet c6JVisSet c17 m1 m7; omega)
                · refine jr_aload rfl rfl ?_
                  refine jr_iload rfl rfl ?_
                  refine jr_cv1 (mc' := 0) (ms' := 0) rfl jm_MD_canTurnTo_n jm_MD_canTurnTo_f rfl rfl rfl rfl rfl rfl rfl (Nat.zero_le _) (Nat.zero_le _) ?_
                  refine eB_canT hw hmo (by omega) (fun S2 hS2 hM2 hV2 => ?_)
                  refine jr_if_ne rfl (fun m11 => ?_) (fun m11 => ?_)
                  · refine jr_aload rfl rfl ?_
                    refine jr_iload rfl rfl ?_
                    refine jr_iload rfl rfl ?_
                    refine jr_cv2 (mc' := 0) (ms' := 0) rfl jm_MD_isTurnedBy_n jm_MD_isTurnedBy_f rfl rfl rfl rfl rfl rfl rfl (Nat.zero_le _) (Nat.zero_le _) ?_
                    refine eS_isT hw hS2 hmo (by omega) hM2 (fun p hp => (hV2 p hp).1) (fun S3 hS3 f3 => ?_)
                    refine jr_if_eq rfl (fun m18 => ?_) (fun m18 => ?_)
                    · refine jr_ic rfl ?_
                      refine jr_iret rfl rfl (Nat.zero_le _) (Nat.zero_le _) ?_
                      first
                        | (have q := jz_Rel_p (S := S1) (k := 0 + 1) (S' := fun x => jh_I hm x 0) hRel0 (fun _ _ => rfl); rw [jS_self] at q; exact ⟨rfl, q⟩)
                        | (have q := jz_Rel_p (S := S3) (k := 0 + 1) (S' := fun x => jh_I hm x 0) hRel0 (fun _ _ => rfl); rw [jS_self] at q; exact ⟨rfl, q⟩)
                        | exact ⟨rfl, (jz_Rel_p hRel0 hS3)⟩
                        | exact ⟨rfl, (jz_Rel_p hRel0 hS2)⟩
                        | exact ⟨rfl, hRel0⟩
                        | (exfalso; omega)
                        | (exfalso; simp (disch := omega) only [Int32.lt_iff_toInt_lt, Int32.le_iff_toInt_le, ← Int32.toInt_inj, Int32.reduceToInt, nI_toInt] at c3JVcanBeAimedAt c3 c1JVisSet c6JVisSet c17 m1 m7 m11 m18; done)
                        | (exfalso; simp (disch := omega) only [Int32.lt_iff_toInt_lt, Int32.le_iff_toInt_le, ← Int32.toInt_inj, Int32.reduceToInt, nI_toInt] at c3JVcanBeAimedAt c3 c1JVisSet c6JVisSet c17 m1 m7 m11 m18; omega)
                    · refine jr_ic rfl ?_
                      refine jr_goto rfl ?_
                      refine jr_iret rfl rfl (Nat.zero_le _) (Nat.zero_le _) ?_
                      first
                        | (have q := jz_Rel_p (S := S1) (k := 0 + 1) (S' := fun x => jh_I hm x 0) hRel0 (fun _ _ => rfl); rw [jS_self] at q; exact ⟨rfl, q⟩)
                        | (have q := jz_Rel_p (S := S3) (k := 0 + 1) (S' := fun x => jh_I hm x 0) hRel0 (fun _ _ => rfl); rw [jS_self] at q; exact ⟨rfl, q⟩)
                        | exact ⟨rfl, (jz_Rel_p hRel0 hS3)⟩
                        | exact ⟨rfl, (jz_Rel_p hRel0 hS2)⟩
                        | exact ⟨rfl, hRel0⟩
                        | (exfalso; omega)
                        | (exfalso; simp (disch := omega) only [Int32.lt_iff_toInt_lt, Int32.le_iff_toInt_le, ← Int32.toInt_inj, Int32.reduceToInt, nI_toInt] at c3JVcanBeAimedAt c3 c1JVisSet c6JVisSet c17 m1 m7 m11 m18; done)
                        | (exfalso; simp (disch := omega) only [Int32.lt_iff_toInt_lt, Int32.le_iff_toInt_le, ← Int32.toInt_inj, Int32.reduceToInt, nI_toInt] at c3JVcanBeAimedAt c3 c1JVisSet c6JVisSet c17 m1 m7 m11 m18; omega)
                  · refine jr_ic rfl ?_
                    refine jr_iret rfl rfl (Nat.zero_le _) (Nat.zero_le _) ?_
                    first
                      | (have q := jz_Rel_p (S := S1) (k := 0 + 1) (S' := fun x => jh_I hm x 0) hRel0 (fun _ _ => rfl); rw [jS_self] at q; exact ⟨rfl, q⟩)
                      | (have q := jz_Rel_p (S := S3) (k := 0 + 1) (S' := fun x => jh_I hm x 0) hRel0 (fun _ _ => rfl); rw [jS_self] at q; exact ⟨rfl, q⟩)
                      | exact ⟨rfl, (jz_Rel_p hRel0 hS3)⟩
                      | exact ⟨rfl, (jz_Rel_p hRel0 hS2)⟩
                      | exact ⟨rfl, hRel0⟩
                      | (exfalso; omega)
                      | (exfalso; simp (disch := omega) only [Int32.lt_iff_toInt_lt, Int32.le_iff_toInt_le, ← Int32.toInt_inj, Int32.reduceToInt, nI_toInt] at c3JVcanBeAimedAt c3 c1JVisSet c6JVisSet c17 m1 m7 m11; done)
                      | (exfalso; simp (disch := omega) only [Int32.lt_iff_toInt_lt, Int32.le_iff_toInt_le, ← Int32.toInt_inj, Int32.reduceToInt, nI_toInt] at c3JVcanBeAimedAt c3 c1JVisSet c6JVisSet c17 m1 m7 m11; omega)
    · refine jr_ic rfl ?_
      refine jr_zret rfl rfl rfl (Nat.zero_le _) (Nat.zero_le _) ?_
      refine jr_if_eq rfl (fun _ => ?_) (fun z => absurd (by decide) z)
      refine jr_ic rfl ?_
      refine jr_iret rfl rfl (Nat.zero_le _) (Nat.zero_le _) ?_
      show jx_W (jm_MD_turned, d + 40, 0, 0, false, 1, _) _ 0 0 0 [some _, some _, some _] [] _
      refine jr_iload rfl rfl ?_
      refine jr_if_lt rfl (fun m1 => ?_) (fun m1 => ?_)
      · refine jr_ic rfl ?_
        refine jr_iret rfl rfl (Nat.zero_le _) (Nat.zero_le _) ?_
        first
          | (have q := jz_Rel_p (S := S1) (k := 0 + 1) (S' := fun x => jh_I hm x 0) hRel0 (fun _ _ => rfl); rw [jS_self] at q; exact ⟨rfl, q⟩)
          | (have q := jz_Rel_p (S := S3) (k := 0 + 1) (S' := fun x => jh_I hm x 0) hRel0 (fun _ _ => rfl); rw [jS_self] at q; exact ⟨rfl, q⟩)
          | exact ⟨rfl, (jz_Rel_p hRel0 hS3)⟩
          | exact ⟨rfl, (jz_Rel_p hRel0 hS2)⟩
          | exact ⟨rfl, hRel0⟩
          | (exfalso; omega)
          | (exfalso; simp (disch := omega) only [Int32.lt_iff_toInt_lt, Int32.le_iff_toInt_le, ← Int32.toInt_inj, Int32.reduceToInt, nI_toInt] at c3JVcanBeAimedAt m1; done)
          | (exfalso; simp (disch := omega) only [Int32.lt_iff_toInt_lt, Int32.le_iff_toInt_le, ← Int32.toInt_inj, Int32.reduceToInt, nI_toInt] at c3JVcanBeAimedAt m1; omega)
      · refine jr_iload rfl rfl ?_
        refine jr_ic rfl ?_
        refine jr_aload rfl rfl ?_
        refine jr_cv0 (mc' := 0) (ms' := 0) rfl jm_MD_personMany_n jm_MD_personMany_f rfl rfl rfl rfl rfl rfl rfl (Nat.zero_le _) (Nat.zero_le _) ?_
        show jx_W (jm_MD_personMany, _, _, _, _, _, _) _ 0 0 0 [some _] [] _
        refine jr_aload rfl rfl ?_
        refine jr_getR rfl rfl rfl rfl (Or.inl rfl) ?_
        refine jr_aload rfl rfl ?_
        refine jr_getI rfl rfl ?_
        refine jr_iald (len := 2) rfl rfl hw.1 (by omega) ?_
        refine jr_iret rfl rfl (Nat.zero_le _) (Nat.zero_le _) ?_
        refine jr_ishl rfl ?_
        rw [es2]
        refine jr_icmp_ge rfl (fun m7 => ?_) (fun m7 => ?_)
        · refine jr_ic rfl ?_
          refine jr_iret rfl rfl (Nat.zero_le _) (Nat.zero_le _) ?_
          first
            | (have q := jz_Rel_p (S := S1) (k := 0 + 1) (S' := fun x => jh_I hm x 0) hRel0 (fun _ _ => rfl); rw [jS_self] at q; exact ⟨rfl, q⟩)
            | (have q := jz_Rel_p (S := S3) (k := 0 + 1) (S' := fun x => jh_I hm x 0) hRel0 (fun _ _ => rfl); rw [jS_self] at q; exact ⟨rfl, q⟩)
            | exact ⟨rfl, (jz_Rel_p hRel0 hS3)⟩
            | exact ⟨rfl, (jz_Rel_p hRel0 hS2)⟩
            | exact ⟨rfl, hRel0⟩
            | (exfalso; omega)
            | (exfalso; simp (disch := omega) only [Int32.lt_iff_toInt_lt, Int32.le_iff_toInt_le, ← Int32.toInt_inj, Int32.reduceToInt, nI_toInt] at c3JVcanBeAimedAt m1 m7; done)
            | (exfalso; simp (disch := omega) only [Int32.lt_iff_toInt_lt, Int32.le_iff_toInt_le, ← Int32.toInt_inj, Int32.reduceToInt, nI_toInt] at c3JVcanBeAimedAt m1 m7; omega)
        · refine jr_aload rfl rfl ?_
          refine jr_iload rfl rfl ?_
          refine jr_cv1 (mc' := 0) (ms' := 0) rfl jm_MD_canTurnTo_n jm_MD_canTurnTo_f rfl rfl rfl rfl rfl rfl rfl (Nat.zero_le _) (Nat.zero_le _) ?_
          refine eB_canT hw hmo (by omega) (fun S2 hS2 hM2 hV2 => ?_)
          refine jr_if_ne rfl (fun m11 => ?_) (fun m11 => ?_)
          · refine jr_aload rfl rfl ?_
            refine jr_iload rfl rfl ?_
            refine jr_iload rfl rfl ?_
            refine jr_cv2 (mc' := 0) (ms' := 0) rfl jm_MD_isTurnedBy_n jm_MD_isTurnedBy_f rfl rfl rfl rfl rfl rfl rfl (Nat.zero_le _) (Nat.zero_le _) ?_
            refine eS_isT hw hS2 hmo (by omega) hM2 (fun p hp => (hV2 p hp).1) (fun S3 hS3 f3 => ?_)
            refine jr_if_eq rfl (fun m18 => ?_) (fun m18 => ?_)
            · refine jr_ic rfl ?_
              refine jr_iret rfl rfl (Nat.zero_le _) (Nat.zero_le _) ?_
              first
                | (have q := jz_Rel_p (S := S1) (k := 0 + 1) (S' := fun x => jh_I hm x 0) hRel0 (fun _ _ => rfl); rw [jS_self] at q; exact ⟨rfl, q⟩)
                | (have q := jz_Rel_p (S := S3) (k := 0 + 1) (S' := fun x => jh_I hm x 0) hRel0 (fun _ _ => rfl); rw [jS_self] at q; exact ⟨rfl, q⟩)
                | exact ⟨rfl, (jz_Rel_p hRel0 hS3)⟩
                | exact ⟨rfl, (jz_Rel_p hRel0 hS2)⟩
                | exact ⟨rfl, hRel0⟩
                | (exfalso; omega)
                | (exfalso; simp (disch := omega) only [Int32.lt_iff_toInt_lt, Int32.le_iff_toInt_le, ← Int32.toInt_inj, Int32.reduceToInt, nI_toInt] at c3JVcanBeAimedAt m1 m7 m11 m18; done)
                | (exfalso; simp (disch := omega) only [Int32.lt_iff_toInt_lt, Int32.le_iff_toInt_le, ← Int32.toInt_inj, Int32.reduceToInt, nI_toInt] at c3JVcanBeAimedAt m1 m7 m11 m18; omega)
            · refine jr_ic rfl ?_
              refine jr_goto rfl ?_
              refine jr_iret rfl rfl (Nat.zero_le _) (Nat.zero_le _) ?_
              first
                | (have q := jz_Rel_p (S := S1) (k := 0 + 1) (S' := fun x => jh_I hm x 0) hRel0 (fun _ _ => rfl); rw [jS_self] at q; exact ⟨rfl, q⟩)
                | (have q := jz_Rel_p (S := S3) (k := 0 + 1) (S' := fun x => jh_I hm x 0) hRel0 (fun _ _ => rfl); rw [jS_self] at q; exact ⟨rfl, q⟩)
                | exact ⟨rfl, (jz_Rel_p hRel0 hS3)⟩
                | exact ⟨rfl, (jz_Rel_p hRel0 hS2)⟩
                | exact ⟨rfl, hRel0⟩
                | (exfalso; omega)
                | (exfalso; simp (disch := omega) only [Int32.lt_iff_toInt_lt, Int32.le_iff_toInt_le, ← Int32.toInt_inj, Int32.reduceToInt, nI_toInt] at c3JVcanBeAimedAt m1 m7 m11 m18; done)
                | (exfalso; simp (disch := omega) only [Int32.lt_iff_toInt_lt, Int32.le_iff_toInt_le, ← Int32.toInt_inj, Int32.reduceToInt, nI_toInt] at c3JVcanBeAimedAt m1 m7 m11 m18; omega)
          · refine jr_ic rfl ?_
            refine jr_iret rfl rfl (Nat.zero_le _) (Nat.zero_le _) ?_
            first
              | (have q := jz_Rel_p (S := S1) (k := 0 + 1) (S' := fun x => jh_I hm x 0) hRel0 (fun _ _ => rfl); rw [jS_self] at q; exact ⟨rfl, q⟩)
              | (have q := jz_Rel_p (S := S3) (k := 0 + 1) (S' := fun x => jh_I hm x 0) hRel0 (fun _ _ => rfl); rw [jS_self] at q; exact ⟨rfl, q⟩)
              | exact ⟨rfl, (jz_Rel_p hRel0 hS3)⟩
              | exact ⟨rfl, (jz_Rel_p hRel0 hS2)⟩
              | exact ⟨rfl, hRel0⟩
              | (exfalso; omega)
              | (exfalso; simp (disch := omega) only [Int32.lt_iff_toInt_lt, Int32.le_iff_toInt_le, ← Int32.toInt_inj, Int32.reduceToInt, nI_toInt] at c3JVcanBeAimedAt m1 m7 m11; done)
              | (exfalso; simp (disch := omega) only [Int32.lt_iff_toInt_lt, Int32.le_iff_toInt_le, ← Int32.toInt_inj, Int32.reduceToInt, nI_toInt] at c3JVcanBeAimedAt m1 m7 m11; omega)
  · have hn1 : 0 < jz_nm hm b := by
      rcases Nat.eq_zero_or_pos (jz_nm hm b) with e | e
      · rw [e] at hnm; exact absurd hnm.1 hmo
      · exact e
    show jx_W (jm_JV_turned, d + 40, 0, 0, false, 0, _) _ 0 0 0 [some (jv_r 10 0), some (jv_i x), some (jv_i y)] [] _
    refine jr_aload rfl rfl ?_
    refine jr_iload rfl rfl ?_
    refine jr_cv1 (mc' := 0) (ms' := 0) rfl jm_JV_canBeAimedAt_n jm_JV_canBeAimedAt_f rfl rfl rfl rfl rfl rfl rfl (Nat.zero_le _) (Nat.zero_le _) ?_
    show jx_W (jm_JV_canBeAimedAt, _, _, _, _, _, _) _ 0 0 0 [some _, some _] [] _
    refine jr_aload rfl rfl ?_
    refine jr_getM rfl rfl rfl rfl hto ?_
    refine jr_getI rfl rfl ?_
    refine jr_if_ne rfl (fun c3JVcanBeAimedAt => ?_) (fun c3JVcanBeAimedAt => ?_)
    · refine jr_aload rfl rfl ?_
      refine jr_getR rfl rfl rfl rfl (Or.inl rfl) ?_
      refine jr_aload rfl rfl ?_
      refine jr_getR rfl rfl rfl rfl (Or.inl rfl) ?_
      refine jr_cv1 (mc' := 0) (ms' := 0) rfl jm_Sway_begin_n jm_Sway_begin_f rfl rfl rfl rfl rfl rfl rfl (Nat.zero_le _) (Nat.zero_le _) ?_
      refine ev_Sway_begin hw hA hR hmo (fun S1 hS1 => ?_)
      refine jr_aload rfl rfl ?_
      refine jr_getR rfl rfl rfl rfl (Or.inl rfl) ?_
      refine jr_iload rfl rfl ?_
      refine jr_cv1 (mc' := 0) (ms' := 0) rfl jm_Poll_mayBe_n jm_Poll_mayBe_f rfl rfl rfl rfl rfl rfl rfl (Nat.zero_le _) (Nat.zero_le _) ?_
      show jx_W (jm_Poll_mayBe, _, _, _, _, _, _) _ 0 0 0 [some _, some _] [] _
      refine jr_iload rfl rfl ?_
      refine jr_cn1 (mc' := 0) (ms' := 0) rfl jm_JV_isLength_n jm_JV_isLength_f rfl rfl (by first | exact Or.inl ⟨rfl, rfl⟩ | exact Or.inr ⟨rfl, rfl⟩) rfl rfl rfl rfl (Nat.zero_le _) (Nat.zero_le _) ?_
      show jx_W (jm_JV_isLength, _, _, _, _, _, _) _ 0 0 0 [some _] [] _
      refine jr_iload rfl rfl ?_
      refine jr_if_lt rfl (fun c1JVisLength => ?_) (fun c1JVisLength => ?_)
      · refine jr_ic rfl ?_
        refine jr_zret rfl rfl rfl (Nat.zero_le _) (Nat.zero_le _) ?_
        refine jr_if_eq rfl (fun _ => ?_) (fun z => absurd (by decide) z)
        refine jr_ic rfl ?_
        refine jr_zret rfl rfl rfl (Nat.zero_le _) (Nat.zero_le _) ?_
        refine jr_zret rfl rfl rfl (Nat.zero_le _) (Nat.zero_le _) ?_
        refine jr_if_eq rfl (fun _ => ?_) (fun z => absurd (by decide) z)
        refine jr_ic rfl ?_
        refine jr_iret rfl rfl (Nat.zero_le _) (Nat.zero_le _) ?_
        show jx_W (jm_MD_turned, d + 40, 0, 0, false, 1, _) _ 0 0 0 [some _, some _, some _] [] _
        refine jr_iload rfl rfl ?_
        refine jr_if_lt rfl (fun m1 => ?_) (fun m1 => ?_)
        · refine jr_ic rfl ?_
          refine jr_iret rfl rfl (Nat.zero_le _) (Nat.zero_le _) ?_
          first
            | (have q := jz_Rel_p (S := S1) (k := 0 + 1) (S' := fun x => jh_I hm x 0) hRel0 (fun _ _ => rfl); rw [jS_self] at q; exact ⟨rfl, q⟩)
            | (have q := jz_Rel_p (S := S3) (k := 0 + 1) (S' := fun x => jh_I hm x 0) hRel0 (fun _ _ => rfl); rw [jS_self] at q; exact ⟨rfl, q⟩)
            | exact ⟨rfl, (jz_Rel_p hRel0 hS3)⟩
            | exact ⟨rfl, (jz_Rel_p hRel0 hS2)⟩
            | exact ⟨rfl, hRel0⟩
            | (exfalso; omega)
            | (exfalso; simp (disch := omega) only [Int32.lt_iff_toInt_lt, Int32.le_iff_toInt_le, ← Int32.toInt_inj, Int32.reduceToInt, nI_toInt] at c3JVcanBeAimedAt c1JVisLength m1; done)
            | (exfalso; simp (disch := omega) only [Int32.lt_iff_toInt_lt, Int32.le_iff_toInt_le, ← Int32.toInt_inj, Int32.reduceToInt, nI_toInt] at c3JVcanBeAimedAt c1JVisLength m1; omega)
        · refine jr_iload rfl rfl ?_
          refine jr_ic rfl ?_
          refine jr_aload rfl rfl ?_
          refine jr_cv0 (mc' := 0) (ms' := 0) rfl jm_MD_personMany_n jm_MD_personMany_f rfl rfl rfl rfl rfl rfl rfl (Nat.zero_le _) (Nat.zero_le _) ?_
          show jx_W (jm_MD_personMany, _, _, _, _, _, _) _ 0 0 0 [some _] [] _
          refine jr_aload rfl rfl ?_
          refine jr_getR rfl rfl rfl rfl (Or.inl rfl) ?_
          refine jr_aload rfl rfl ?_
          refine jr_getI rfl rfl ?_
          refine jr_iald (len := 2) rfl rfl hw.1 (by omega) ?_
          refine jr_iret rfl rfl (Nat.zero_le _) (Nat.zero_le _) ?_
          refine jr_ishl rfl ?_
          refine jr_icmp_ge rfl (fun m7 => ?_) (fun m7 => ?_)
          · refine jr_ic rfl ?_
            refine jr_iret rfl rfl (Nat.zero_le _) (Nat.zero_le _) ?_
            first
              | (have q := jz_Rel_p (S := S1) (k := 0 + 1) (S' := fun x => jh_I hm x 0) hRel0 (fun _ _ => rfl); rw [jS_self] at q; exact ⟨rfl, q⟩)
              | (have q := jz_Rel_p (S := S3) (k := 0 + 1) (S' := fun x => jh_I hm x 0) hRel0 (fun _ _ => rfl); rw [jS_self] at q; exact ⟨rfl, q⟩)
              | exact ⟨rfl, (jz_Rel_p hRel0 hS3)⟩
              | exact ⟨rfl, (jz_Rel_p hRel0 hS2)⟩
              | exact ⟨rfl, hRel0⟩
              | (exfalso; omega)
              | (exfalso; simp (disch := omega) only [Int32.lt_iff_toInt_lt, Int32.le_iff_toInt_le, ← Int32.toInt_inj, Int32.reduceToInt, nI_toInt] at c3JVcanBeAimedAt c1JVisLength m1 m7; done)
              | (exfalso; simp (disch := omega) only [Int32.lt_iff_toInt_lt, Int32.le_iff_toInt_le, ← Int32.toInt_inj, Int32.reduceToInt, nI_toInt] at c3JVcanBeAimedAt c1JVisLength m1 m7; omega)
          · refine jr_aload rfl rfl ?_
            refine jr_iload rfl rfl ?_
            refine jr_cv1 (mc' := 0) (ms' := 0) rfl jm_MD_canTurnTo_n jm_MD_canTurnTo_f rfl rfl rfl rfl rfl rfl rfl (Nat.zero_le _) (Nat.zero_le _) ?_
            show jx_W (jm_MD_canTurnTo, _, _, _, _, _, _) _ 0 0 0 [some _, some _, none] [] _
            refine jr_aload rfl rfl ?_
            refine jr_cv0 (mc' := 0) (ms' := 0) rfl jm_MD_hasMonths_n jm_MD_hasMonths_f rfl rfl rfl rfl rfl rfl rfl (Nat.zero_le _) (Nat.zero_le _) ?_
            show jx_W (jm_MD_hasMonths, _, _, _, _, _, _) _ 0 0 0 [some _] [] _
            refine jr_aload rfl rfl ?_
            refine jr_getR rfl rfl rfl rfl (Or.inl rfl) ?_
            refine jr_aload rfl rfl ?_
            refine jr_getI rfl rfl ?_
            refine jr_iald (len := 2) rfl rfl hw.1 (by omega) ?_
            refine jr_if_le rfl (fun m5MDhasMonths => ?_) (fun m5MDhasMonths => ?_)
            · refine jr_ic rfl ?_
              refine jr_zret rfl rfl rfl (Nat.zero_le _) (Nat.zero_le _) ?_
              refine jr_if_eq rfl (fun _ => ?_) (fun z => absurd (by decide) z)
              refine jr_ic rfl ?_
              refine jr_zret rfl rfl rfl (Nat.zero_le _) (Nat.zero_le _) ?_
              refine jr_if_ne rfl (fun z => absurd (by decide) z) (fun _ => ?_)
              refine jr_ic rfl ?_
              refine jr_iret rfl rfl (Nat.zero_le _) (Nat.zero_le _) ?_
              first
                | (have q := jz_Rel_p (S := S1) (k := 0 + 1) (S' := fun x => jh_I hm x 0) hRel0 (fun _ _ => rfl); rw [jS_self] at q; exact ⟨rfl, q⟩)
                | (have q := jz_Rel_p (S := S3) (k := 0 + 1) (S' := fun x => jh_I hm x 0) hRel0 (fun _ _ => rfl); rw [jS_self] at q; exact ⟨rfl, q⟩)
                | exact ⟨rfl, (jz_Rel_p hRel0 hS3)⟩
                | exact ⟨rfl, (jz_Rel_p hRel0 hS2)⟩
                | exact ⟨rfl, hRel0⟩
                | (exfalso; omega)
                | (exfalso; simp (disch := omega) only [Int32.lt_iff_toInt_lt, Int32.le_iff_toInt_le, ← Int32.toInt_inj, Int32.reduceToInt, nI_toInt] at c3JVcanBeAimedAt c1JVisLength m1 m7 m5MDhasMonths; done)
                | (exfalso; simp (disch := omega) only [Int32.lt_iff_toInt_lt, Int32.le_iff_toInt_le, ← Int32.toInt_inj, Int32.reduceToInt, nI_toInt] at c3JVcanBeAimedAt c1JVisLength m1 m7 m5MDhasMonths; omega)
            · refine jr_ic rfl ?_
              refine jr_goto rfl ?_
              refine jr_zret rfl rfl rfl (Nat.zero_le _) (Nat.zero_le _) ?_
              refine jr_if_eq rfl (fun z => absurd z (by decide)) (fun _ => ?_)
              refine jr_iload rfl rfl ?_
              refine jr_ic rfl ?_
              refine jr_ic rfl ?_
              refine jr_cs3 (mc' := 0) (ms' := 0) rfl jm_MD_isIn_n jm_MD_isIn_f rfl rfl rfl rfl rfl (Nat.zero_le _) (Nat.zero_le _) ?_
              show jx_W (jm_MD_isIn, _, _, _, _, _, _) _ 0 0 0 [some _, some _, some _] [] _
              refine jr_iload rfl rfl ?_
              refine jr_iload rfl rfl ?_
              refine jr_icmp_lt rfl (fun m2MDisIn => ?_) (fun m2MDisIn => ?_)
              · refine jr_ic rfl ?_
                refine jr_zret rfl rfl rfl (Nat.zero_le _) (Nat.zero_le _) ?_
                refine jr_if_ne rfl (fun z => absurd (by decide) z) (fun _ => ?_)
                refine jr_ic rfl ?_
                refine jr_zret rfl rfl rfl (Nat.zero_le _) (Nat.zero_le _) ?_
                refine jr_if_ne rfl (fun z => absurd (by decide) z) (fun _ => ?_)
                refine jr_ic rfl ?_
                refine jr_iret rfl rfl (Nat.zero_le _) (Nat.zero_le _) ?_
                first
                  | (have q := jz_Rel_p (S := S1) (k := 0 + 1) (S' := fun x => jh_I hm x 0) hRel0 (fun _ _ => rfl); rw [jS_self] at q; exact ⟨rfl, q⟩)
                  | (have q := jz_Rel_p (S := S3) (k := 0 + 1) (S' := fun x => jh_I hm x 0) hRel0 (fun _ _ => rfl); rw [jS_self] at q; exact ⟨rfl, q⟩)
                  | exact ⟨rfl, (jz_Rel_p hRel0 hS3)⟩
                  | exact ⟨rfl, (jz_Rel_p hRel0 hS2)⟩
                  | exact ⟨rfl, hRel0⟩
                  | (exfalso; omega)
                  | (exfalso; simp (disch := omega) only [Int32.lt_iff_toInt_lt, Int32.le_iff_toInt_le, ← Int32.toInt_inj, Int32.reduceToInt, nI_toInt] at c3JVcanBeAimedAt c1JVisLength m1 m7 m5MDhasMonths m2MDisIn; done)
                  | (exfalso; simp (disch := omega) only [Int32.lt_iff_toInt_lt, Int32.le_iff_toInt_le, ← Int32.toInt_inj, Int32.reduceToInt, nI_toInt] at c3JVcanBeAimedAt c1JVisLength m1 m7 m5MDhasMonths m2MDisIn; omega)
              · refine jr_iload rfl rfl ?_
                refine jr_iload rfl rfl ?_
                refine jr_icmp_gt rfl (fun m5MDisIn => ?_) (fun m5MDisIn => ?_)
                · refine jr_ic rfl ?_
                  refine jr_zret rfl rfl rfl (Nat.zero_le _) (Nat.zero_le _) ?_
                  refine jr_if_ne rfl (fun z => absurd (by decide) z) (fun _ => ?_)
                  refine jr_ic rfl ?_
                  refine jr_zret rfl rfl rfl (Nat.zero_le _) (Nat.zero_le _) ?_
                  refine jr_if_ne rfl (fun z => absurd (by decide) z) (fun _ => ?_)
                  refine jr_ic rfl ?_
                  refine jr_iret rfl rfl (Nat.zero_le _) (Nat.zero_le _) ?_
                  first
                    | (have q := jz_Rel_p (S := S1) (k := 0 + 1) (S' := fun x => jh_I hm x 0) hRel0 (fun _ _ => rfl); rw [jS_self] at q; exact ⟨rfl, q⟩)
                    | (have q := jz_Rel_p (S := S3) (k := 0 + 1) (S' := fun x => jh_I hm x 0) hRel0 (fun _ _ => rfl); rw [jS_self] at q; exact ⟨rfl, q⟩)
                    | exact ⟨rfl, (jz_Rel_p hRel0 hS3)⟩
                    | exact ⟨rfl, (jz_Rel_p hRel0 hS2)⟩
                    | exact ⟨rfl, hRel0⟩
                    | (exfalso; omega)
                    | (exfalso; simp (disch := omega) only [Int32.lt_iff_toInt_lt, Int32.le_iff_toInt_le, ← Int32.toInt_inj, Int32.reduceToInt, nI_toInt] at c3JVcanBeAimedAt c1JVisLength m1 m7 m5MDhasMonths m2MDisIn m5MDisIn; done)
                    | (exfalso; simp (disch := omega) only [Int32.lt_iff_toInt_lt, Int32.le_iff_toInt_le, ← Int32.toInt_inj, Int32.reduceToInt, nI_toInt] at c3JVcanBeAimedAt c1JVisLength m1 m7 m5MDhasMonths m2MDisIn m5MDisIn; omega)
                · refine jr_ic rfl ?_
                  refine jr_goto rfl ?_
                  refine jr_zret rfl rfl rfl (Nat.zero_le _) (Nat.zero_le _) ?_
                  refine jr_if_ne rfl (fun _ => ?_) (fun z => absurd z (by decide))
                  refine jr_aload rfl rfl ?_
                  refine jr_cv0 (mc' := 0) (ms' := 0) rfl jm_MD_layVotes_n jm_MD_layVotes_f rfl rfl rfl rfl rfl rfl rfl (Nat.zero_le _) (Nat.zero_le _) ?_
                  first
                    | (exfalso; omega)
                    | (exfalso; simp (disch := omega) only [Int32.lt_iff_toInt_lt, Int32.le_iff_toInt_le, ← Int32.toInt_inj, Int32.reduceToInt, nI_toInt] at c3JVcanBeAimedAt c1JVisLength m1 m7 m5MDhasMonths m2MDisIn m5MDisIn; done)
                    | (exfalso; simp (disch := omega) only [Int32.lt_iff_toInt_lt, Int32.le_iff_toInt_le, ← Int32.toInt_inj, Int32.reduceToInt, nI_toInt] at c3JVcanBeAimedAt c1JVisLength m1 m7 m5MDhasMonths m2MDisIn m5MDisIn; omega)
      · refine jr_iload rfl rfl ?_
        refine jr_ic rfl ?_
        refine jr_icmp_gt rfl (fun c4JVisLength => ?_) (fun c4JVisLength => ?_)
        · refine jr_ic rfl ?_
          refine jr_zret rfl rfl rfl (Nat.zero_le _) (Nat.zero_le _) ?_
          refine jr_if_eq rfl (fun _ => ?_) (fun z => absurd (by decide) z)
          refine jr_ic rfl ?_
          refine jr_zret rfl rfl rfl (Nat.zero_le _) (Nat.zero_le _) ?_
          refine jr_zret rfl rfl rfl (Nat.zero_le _) (Nat.zero_le _) ?_
          refine jr_if_eq rfl (fun _ => ?_) (fun z => absurd (by decide) z)
          refine jr_ic rfl ?_
          refine jr_iret rfl rfl (Nat.zero_le _) (Nat.zero_le _) ?_
          show jx_W (jm_MD_turned, d + 40, 0, 0, false, 1, _) _ 0 0 0 [some _, some _, some _] [] _
          refine jr_iload rfl rfl ?_
          refine jr_if_lt rfl (fun m1 => ?_) (fun m1 => ?_)
          · refine jr_ic rfl ?_
            refine jr_iret rfl rfl (Nat.zero_le _) (Nat.zero_le _) ?_
            first
              | (have q := jz_Rel_p (S := S1) (k := 0 + 1) (S' := fun x => jh_I hm x 0) hRel0 (fun _ _ => rfl); rw [jS_self] at q; exact ⟨rfl, q⟩)
              | (have q := jz_Rel_p (S := S3) (k := 0 + 1) (S' := fun x => jh_I hm x 0) hRel0 (fun _ _ => rfl); rw [jS_self] at q; exact ⟨rfl, q⟩)
              | exact ⟨rfl, (jz_Rel_p hRel0 hS3)⟩
              | exact ⟨rfl, (jz_Rel_p hRel0 hS2)⟩
              | exact ⟨rfl, hRel0⟩
              | (exfalso; omega)
              | (exfalso; simp (disch := omega) only [Int32.lt_iff_toInt_lt, Int32.le_iff_toInt_le, ← Int32.toInt_inj, Int32.reduceToInt, nI_toInt] at c3JVcanBeAimedAt c1JVisLength c4JVisLength m1; done)
              | (exfalso; simp (disch := omega) only [Int32.lt_iff_toInt_lt, Int32.le_iff_toInt_le, ← Int32.toInt_inj, Int32.reduceToInt, nI_toInt] at c3JVcanBeAimedAt c1JVisLength c4JVisLength m1; omega)
          · refine jr_iload rfl rfl ?_
            refine jr_ic rfl ?_
            refine jr_aload rfl rfl ?_
            refine jr_cv0 (mc' := 0) (ms' := 0) rfl jm_MD_personMany_n jm_MD_personMany_f rfl rfl rfl rfl rfl rfl rfl (Nat.zero_le _) (Nat.zero_le _) ?_
            show jx_W (jm_MD_personMany, _, _, _, _, _, _) _ 0 0 0 [some _] [] _
            refine jr_aload rfl rfl ?_
            refine jr_getR rfl rfl rfl rfl (Or.inl rfl) ?_
            refine jr_aload rfl rfl ?_
            refine jr_getI rfl rfl ?_
            refine jr_iald (len := 2) rfl rfl hw.1 (by omega) ?_
            refine jr_iret rfl rfl (Nat.zero_le _) (Nat.zero_le _) ?_
            refine jr_ishl rfl ?_
            refine jr_icmp_ge rfl (fun m7 => ?_) (fun m7 => ?_)
            · refine jr_ic rfl ?_
              refine jr_iret rfl rfl (Nat.zero_le _) (Nat.zero_le _) ?_
              first
                | (have q := jz_Rel_p (S := S1) (k := 0 + 1) (S' := fun x => jh_I hm x 0) hRel0 (fun _ _ => rfl); rw [jS_self] at q; exact ⟨rfl, q⟩)
                | (have q := jz_Rel_p (S := S3) (k := 0 + 1) (S' := fun x => jh_I hm x 0) hRel0 (fun _ _ => rfl); rw [jS_self] at q; exact ⟨rfl, q⟩)
                | exact ⟨rfl, (jz_Rel_p hRel0 hS3)⟩
                | exact ⟨rfl, (jz_Rel_p hRel0 hS2)⟩
                | exact ⟨rfl, hRel0⟩
                | (exfalso; omega)
                | (exfalso; simp (disch := omega) only [Int32.lt_iff_toInt_lt, Int32.le_iff_toInt_le, ← Int32.toInt_inj, Int32.reduceToInt, nI_toInt] at c3JVcanBeAimedAt c1JVisLength c4JVisLength m1 m7; done)
                | (exfalso; simp (disch := omega) only [Int32.lt_iff_toInt_lt, Int32.le_iff_toInt_le, ← Int32.toInt_inj, Int32.reduceToInt, nI_toInt] at c3JVcanBeAimedAt c1JVisLength c4JVisLength m1 m7; omega)
            · refine jr_aload rfl rfl ?_
              refine jr_iload rfl rfl ?_
              refine jr_cv1 (mc' := 0) (ms' := 0) rfl jm_MD_canTurnTo_n jm_MD_canTurnTo_f rfl rfl rfl rfl rfl rfl rfl (Nat.zero_le _) (Nat.zero_le _) ?_
              show jx_W (jm_MD_canTurnTo, _, _, _, _, _, _) _ 0 0 0 [some _, some _, none] [] _
              refine jr_aload rfl rfl ?_
              refine jr_cv0 (mc' := 0) (ms' := 0) rfl jm_MD_hasMonths_n jm_MD_hasMonths_f rfl rfl rfl rfl rfl rfl rfl (Nat.zero_le _) (Nat.zero_le _) ?_
              show jx_W (jm_MD_hasMonths, _, _, _, _, _, _) _ 0 0 0 [some _] [] _
              refine jr_aload rfl rfl ?_
              refine jr_getR rfl rfl rfl rfl (Or.inl rfl) ?_
              refine jr_aload rfl rfl ?_
              refine jr_getI rfl rfl ?_
              refine jr_iald (len := 2) rfl rfl hw.1 (by omega) ?_
              refine jr_if_le rfl (fun m5MDhasMonths => ?_) (fun m5MDhasMonths => ?_)
              · refine jr_ic rfl ?_
                refine jr_zret rfl rfl rfl (Nat.zero_le _) (Nat.zero_le _) ?_
                refine jr_if_eq rfl (fun _ => ?_) (fun z => absurd (by decide) z)
                refine jr_ic rfl ?_
                refine jr_zret rfl rfl rfl (Nat.zero_le _) (Nat.zero_le _) ?_
                refine jr_if_ne rfl (fun z => absurd (by decide) z) (fun _ => ?_)
                refine jr_ic rfl ?_
                refine jr_iret rfl rfl (Nat.zero_le _) (Nat.zero_le _) ?_
                first
                  | (have q := jz_Rel_p (S := S1) (k := 0 + 1) (S' := fun x => jh_I hm x 0) hRel0 (fun _ _ => rfl); rw [jS_self] at q; exact ⟨rfl, q⟩)
                  | (have q := jz_Rel_p (S := S3) (k := 0 + 1) (S' := fun x => jh_I hm x 0) hRel0 (fun _ _ => rfl); rw [jS_self] at q; exact ⟨rfl, q⟩)
                  | exact ⟨rfl, (jz_Rel_p hRel0 hS3)⟩
                  | exact ⟨rfl, (jz_Rel_p hRel0 hS2)⟩
                  | exact ⟨rfl, hRel0⟩
                  | (exfalso; omega)
                  | (exfalso; simp (disch := omega) only [Int32.lt_iff_toInt_lt, Int32.le_iff_toInt_le, ← Int32.toInt_inj, Int32.reduceToInt, nI_toInt] at c3JVcanBeAimedAt c1JVisLength c4JVisLength m1 m7 m5MDhasMonths; done)
                  | (exfalso; simp (disch := omega) only [Int32.lt_iff_toInt_lt, Int32.le_iff_toInt_le, ← Int32.toInt_inj, Int32.reduceToInt, nI_toInt] at c3JVcanBeAimedAt c1JVisLength c4JVisLength m1 m7 m5MDhasMonths; omega)
              · refine jr_ic rfl ?_
                refine jr_goto rfl ?_
                refine jr_zret rfl rfl rfl (Nat.zero_le _) (Nat.zero_le _) ?_
                refine jr_if_eq rfl (fun z => absurd z (by decide)) (fun _ => ?_)
                refine jr_iload rfl rfl ?_
                refine jr_ic rfl ?_
                refine jr_ic rfl ?_
                refine jr_cs3 (mc' := 0) (ms' := 0) rfl jm_MD_isIn_n jm_MD_isIn_f rfl rfl rfl rfl rfl (Nat.zero_le _) (Nat.zero_le _) ?_
                show jx_W (jm_MD_isIn, _, _, _, _, _, _) _ 0 0 0 [some _, some _, some _] [] _
                refine jr_iload rfl rfl ?_
                refine jr_iload rfl rfl ?_
                refine jr_icmp_lt rfl (fun m2MDisIn => ?_) (fun m2MDisIn => ?_)
                · refine jr_ic rfl ?_
                  refine jr_zret rfl rfl rfl (Nat.zero_le _) (Nat.zero_le _) ?_
                  refine jr_if_ne rfl (fun z => absurd (by decide) z) (fun _ => ?_)
                  refine jr_ic rfl ?_
                  refine jr_zret rfl rfl rfl (Nat.zero_le _) (Nat.zero_le _) ?_
                  refine jr_if_ne rfl (fun z => absurd (by decide) z) (fun _ => ?_)
                  refine jr_ic rfl ?_
                  refine jr_iret rfl rfl (Nat.zero_le _) (Nat.zero_le _) ?_
                  first
                    | (have q := jz_Rel_p (S := S1) (k := 0 + 1) (S' := fun x => jh_I hm x 0) hRel0 (fun _ _ => rfl); rw [jS_self] at q; exact ⟨rfl, q⟩)
                    | (have q := jz_Rel_p (S := S3) (k := 0 + 1) (S' := fun x => jh_I hm x 0) hRel0 (fun _ _ => rfl); rw [jS_self] at q; exact ⟨rfl, q⟩)
                    | exact ⟨rfl, (jz_Rel_p hRel0 hS3)⟩
                    | exact ⟨rfl, (jz_Rel_p hRel0 hS2)⟩
                    | exact ⟨rfl, hRel0⟩
                    | (exfalso; omega)
                    | (exfalso; simp (disch := omega) only [Int32.lt_iff_toInt_lt, Int32.le_iff_toInt_le, ← Int32.toInt_inj, Int32.reduceToInt, nI_toInt] at c3JVcanBeAimedAt c1JVisLength c4JVisLength m1 m7 m5MDhasMonths m2MDisIn; done)
                    | (exfalso; simp (disch := omega) only [Int32.lt_iff_toInt_lt, Int32.le_iff_toInt_le, ← Int32.toInt_inj, Int32.reduceToInt, nI_toInt] at c3JVcanBeAimedAt c1JVisLength c4JVisLength m1 m7 m5MDhasMonths m2MDisIn; omega)
                · refine jr_iload rfl rfl ?_
                  refine jr_iload rfl rfl ?_
                  refine jr_icmp_gt rfl (fun m5MDisIn => ?_) (fun m5MDisIn => ?_)
                  · refine jr_ic rfl ?_
                    refine jr_zret rfl rfl rfl (Nat.zero_le _) (Nat.zero_le _) ?_
                    refine jr_if_ne rfl (fun z => absurd (by decide) z) (fun _ => ?_)
                    refine jr_ic rfl ?_
                    refine jr_zret rfl rfl rfl (Nat.zero_le _) (Nat.zero_le _) ?_
                    refine jr_if_ne rfl (fun z => absurd (by decide) z) (fun _ => ?_)
                    refine jr_ic rfl ?_
                    refine jr_iret rfl rfl (Nat.zero_le _) (Nat.zero_le _) ?_
                    first
                      | (have q := jz_Rel_p (S := S1) (k := 0 + 1) (S' := fun x => jh_I hm x 0) hRel0 (fun _ _ => rfl); rw [jS_self] at q; exact ⟨rfl, q⟩)
                      | (have q := jz_Rel_p (S := S3) (k := 0 + 1) (S' := fun x => jh_I hm x 0) hRel0 (fun _ _ => rfl); rw [jS_self] at q; exact ⟨rfl, q⟩)
                      | exact ⟨rfl, (jz_Rel_p hRel0 hS3)⟩
                      | exact ⟨rfl, (jz_Rel_p hRel0 hS2)⟩
                      | exact ⟨rfl, hRel0⟩
                      | (exfalso; omega)
                      | (exfalso; simp (disch := omega) only [Int32.lt_iff_toInt_lt, Int32.le_iff_toInt_le, ← Int32.toInt_inj, Int32.reduceToInt, nI_toInt] at c3JVcanBeAimedAt c1JVisLength c4JVisLength m1 m7 m5MDhasMonths m2MDisIn m5MDisIn; done)
                      | (exfalso; simp (disch := omega) only [Int32.lt_iff_toInt_lt, Int32.le_iff_toInt_le, ← Int32.toInt_inj, Int32.reduceToInt, nI_toInt] at c3JVcanBeAimedAt c1JVisLength c4JVisLength m1 m7 m5MDhasMonths m2MDisIn m5MDisIn; omega)
                  · refine jr_ic rfl ?_
                    refine jr_goto rfl ?_
                    refine jr_zret rfl rfl rfl (Nat.zero_le _) (Nat.zero_le _) ?_
                    refine jr_if_ne rfl (fun _ => ?_) (fun z => absurd z (by decide))
                    refine jr_aload rfl rfl ?_
                    refine jr_cv0 (mc' := 0) (ms' := 0) rfl jm_MD_layVotes_n jm_MD_layVotes_f rfl rfl rfl rfl rfl rfl rfl (Nat.zero_le _) (Nat.zero_le _) ?_
                    first
                      | (exfalso; omega)
                      | (exfalso; simp (disch := omega) only [Int32.lt_iff_toInt_lt, Int32.le_iff_toInt_le, ← Int32.toInt_inj, Int32.reduceToInt, nI_toInt] at c3JVcanBeAimedAt c1JVisLength c4JVisLength m1 m7 m5MDhasMonths m2MDisIn m5MDisIn; done)
                      | (exfalso; simp (disch := omega) only [Int32.lt_iff_toInt_lt, Int32.le_iff_toInt_le, ← Int32.toInt_inj, Int32.reduceToInt, nI_toInt] at c3JVcanBeAimedAt c1JVisLength c4JVisLength m1 m7 m5MDhasMonths m2MDisIn m5MDisIn; omega)
        · refine jr_ic rfl ?_
          refine jr_goto rfl ?_
          refine jr_zret rfl rfl rfl (Nat.zero_le _) (Nat.zero_le _) ?_
          refine jr_if_eq rfl (fun z => absurd z (by decide)) (fun _ => ?_)
          refine jr_aload rfl rfl ?_
          refine jr_getI rfl rfl ?_
          refine jr_iload rfl rfl ?_
          refine jr_iushr rfl ?_
          refine jr_ic rfl ?_
          refine jr_iand rfl ?_
          refine jr_if_eq rfl (fun c9PollmayBe => ?_) (fun c9PollmayBe => ?_)
          · refine jr_ic rfl ?_
            refine jr_zret rfl rfl rfl (Nat.zero_le _) (Nat.zero_le _) ?_
            refine jr_zret rfl rfl rfl (Nat.zero_le _) (Nat.zero_le _) ?_
            refine jr_if_eq rfl (fun _ => ?_) (fun z => absurd (by decide) z)
            refine jr_ic rfl ?_
            refine jr_iret rfl rfl (Nat.zero_le _) (Nat.zero_le _) ?_
            show jx_W (jm_MD_turned, d + 40, 0, 0, false, 1, _) _ 0 0 0 [some _, some _, some _] [] _
            refine jr_iload rfl rfl ?_
            refine jr_if_lt rfl (fun m1 => ?_) (fun m1 => ?_)
            · refine jr_ic rfl ?_
              refine jr_iret rfl rfl (Nat.zero_le _) (Nat.zero_le _) ?_
              first
                | (have q := jz_Rel_p (S := S1) (k := 0 + 1) (S' := fun x => jh_I hm x 0) hRel0 (fun _ _ => rfl); rw [jS_self] at q; exact ⟨rfl, q⟩)
                | (have q := jz_Rel_p (S := S3) (k := 0 + 1) (S' := fun x => jh_I hm x 0) hRel0 (fun _ _ => rfl); rw [jS_self] at q; exact ⟨rfl, q⟩)
                | exact ⟨rfl, (jz_Rel_p hRel0 hS3)⟩
                | exact ⟨rfl, (jz_Rel_p hRel0 hS2)⟩
                | exact ⟨rfl, hRel0⟩
                | (exfalso; omega)
                | (exfalso; simp (disch := omega) only [Int32.lt_iff_toInt_lt, Int32.le_iff_toInt_le, ← Int32.toInt_inj, Int32.reduceToInt, nI_toInt] at c3JVcanBeAimedAt c1JVisLength c4JVisLength c9PollmayBe m1; done)
                | (exfalso; simp (disch := omega) only [Int32.lt_iff_toInt_lt, Int32.le_iff_toInt_le, ← Int32.toInt_inj, Int32.reduceToInt, nI_toInt] at c3JVcanBeAimedAt c1JVisLength c4JVisLength c9PollmayBe m1; omega)
            · refine jr_iload rfl rfl ?_
              refine jr_ic rfl ?_
              refine jr_aload rfl rfl ?_
              refine jr_cv0 (mc' := 0) (ms' := 0) rfl jm_MD_personMany_n jm_MD_personMany_f rfl rfl rfl rfl rfl rfl rfl (Nat.zero_le _) (Nat.zero_le _) ?_
              show jx_W (jm_MD_personMany, _, _, _, _, _, _) _ 0 0 0 [some _] [] _
              refine jr_aload rfl rfl ?_
              refine jr_getR rfl rfl rfl rfl (Or.inl rfl) ?_
              refine jr_aload rfl rfl ?_
              refine jr_getI rfl rfl ?_
              refine jr_iald (len := 2) rfl rfl hw.1 (by omega) ?_
              refine jr_iret rfl rfl (Nat.zero_le _) (Nat.zero_le _) ?_
              refine jr_ishl rfl ?_
              refine jr_icmp_ge rfl (fun m7 => ?_) (fun m7 => ?_)
              · refine jr_ic rfl ?_
                refine jr_iret rfl rfl (Nat.zero_le _) (Nat.zero_le _) ?_
                first
                  | (have q := jz_Rel_p (S := S1) (k := 0 + 1) (S' := fun x => jh_I hm x 0) hRel0 (fun _ _ => rfl); rw [jS_self] at q; exact ⟨rfl, q⟩)
                  | (have q := jz_Rel_p (S := S3) (k := 0 + 1) (S' := fun x => jh_I hm x 0) hRel0 (fun _ _ => rfl); rw [jS_self] at q; exact ⟨rfl, q⟩)
                  | exact ⟨rfl, (jz_Rel_p hRel0 hS3)⟩
                  | exact ⟨rfl, (jz_Rel_p hRel0 hS2)⟩
                  | exact ⟨rfl, hRel0⟩
                  | (exfalso; omega)
                  | (exfalso; simp (disch := omega) only [Int32.lt_iff_toInt_lt, Int32.le_iff_toInt_le, ← Int32.toInt_inj, Int32.reduceToInt, nI_toInt] at c3JVcanBeAimedAt c1JVisLength c4JVisLength c9PollmayBe m1 m7; done)
                  | (exfalso; simp (disch := omega) only [Int32.lt_iff_toInt_lt, Int32.le_iff_toInt_le, ← Int32.toInt_inj, Int32.reduceToInt, nI_toInt] at c3JVcanBeAimedAt c1JVisLength c4JVisLength c9PollmayBe m1 m7; omega)
              · refine jr_aload rfl rfl ?_
                refine jr_iload rfl rfl ?_
                refine jr_cv1 (mc' := 0) (ms' := 0) rfl jm_MD_canTurnTo_n jm_MD_canTurnTo_f rfl rfl rfl rfl rfl rfl rfl (Nat.zero_le _) (Nat.zero_le _) ?_
                show jx_W (jm_MD_canTurnTo, _, _, _, _, _, _) _ 0 0 0 [some _, some _, none] [] _
                refine jr_aload rfl rfl ?_
                refine jr_cv0 (mc' := 0) (ms' := 0) rfl jm_MD_hasMonths_n jm_MD_hasMonths_f rfl rfl rfl rfl rfl rfl rfl (Nat.zero_le _) (Nat.zero_le _) ?_
                show jx_W (jm_MD_hasMonths, _, _, _, _, _, _) _ 0 0 0 [some _] [] _
                refine jr_aload rfl rfl ?_
                refine jr_getR rfl rfl rfl rfl (Or.inl rfl) ?_
                refine jr_aload rfl rfl ?_
                refine jr_getI rfl rfl ?_
                refine jr_iald (len := 2) rfl rfl hw.1 (by omega) ?_
                refine jr_if_le rfl (fun m5MDhasMonths => ?_) (fun m5MDhasMonths => ?_)
                · refine jr_ic rfl ?_
                  refine jr_zret rfl rfl rfl (Nat.zero_le _) (Nat.zero_le _) ?_
                  refine jr_if_eq rfl (fun _ => ?_) (fun z => absurd (by decide) z)
                  refine jr_ic rfl ?_
                  refine jr_zret rfl rfl rfl (Nat.zero_le _) (Nat.zero_le _) ?_
                  refine jr_if_ne rfl (fun z => absurd (by decide) z) (fun _ => ?_)
                  refine jr_ic rfl ?_
                  refine jr_iret rfl rfl (Nat.zero_le _) (Nat.zero_le _) ?_
                  first
                    | (have q := jz_Rel_p (S := S1) (k := 0 + 1) (S' := fun x => jh_I hm x 0) hRel0 (fun _ _ => rfl); rw [jS_self] at q; exact ⟨rfl, q⟩)
                    | (have q := jz_Rel_p (S := S3) (k := 0 + 1) (S' := fun x => jh_I hm x 0) hRel0 (fun _ _ => rfl); rw [jS_self] at q; exact ⟨rfl, q⟩)
                    | exact ⟨rfl, (jz_Rel_p hRel0 hS3)⟩
                    | exact ⟨rfl, (jz_Rel_p hRel0 hS2)⟩
                    | exact ⟨rfl, hRel0⟩
                    | (exfalso; omega)
                    | (exfalso; simp (disch := omega) only [Int32.lt_iff_toInt_lt, Int32.le_iff_toInt_le, ← Int32.toInt_inj, Int32.reduceToInt, nI_toInt] at c3JVcanBeAimedAt c1JVisLength c4JVisLength c9PollmayBe m1 m7 m5MDhasMonths; done)
                    | (exfalso; simp (disch := omega) only [Int32.lt_iff_toInt_lt, Int32.le_iff_toInt_le, ← Int32.toInt_inj, Int32.reduceToInt, nI_toInt] at c3JVcanBeAimedAt c1JVisLength c4JVisLength c9PollmayBe m1 m7 m5MDhasMonths; omega)
                · refine jr_ic rfl ?_
                  refine jr_goto rfl ?_
                  refine jr_zret rfl rfl rfl (Nat.zero_le _) (Nat.zero_le _) ?_
                  refine jr_if_eq rfl (fun z => absurd z (by decide)) (fun _ => ?_)
                  refine jr_iload rfl rfl ?_
                  refine jr_ic rfl ?_
                  refine jr_ic rfl ?_
                  refine jr_cs3 (mc' := 0) (ms' := 0) rfl jm_MD_isIn_n jm_MD_isIn_f rfl rfl rfl rfl rfl (Nat.zero_le _) (Nat.zero_le _) ?_
                  show jx_W (jm_MD_isIn, _, _, _, _, _, _) _ 0 0 0 [some _, some _, some _] [] _
                  refine jr_iload rfl rfl ?_
                  refine jr_iload rfl rfl ?_
                  refine jr_icmp_lt rfl (fun m2MDisIn => ?_) (fun m2MDisIn => ?_)
                  · refine jr_ic rfl ?_
                    refine jr_zret rfl rfl rfl (Nat.zero_le _) (Nat.zero_le _) ?_
                    refine jr_if_ne rfl (fun z => absurd (by decide) z) (fun _ => ?_)
                    refine jr_ic rfl ?_
                    refine jr_zret rfl rfl rfl (Nat.zero_le _) (Nat.zero_le _) ?_
                    refine jr_if_ne rfl (fun z => absurd (by decide) z) (fun _ => ?_)
                    refine jr_ic rfl ?_
                    refine jr_iret rfl rfl (Nat.zero_le _) (Nat.zero_le _) ?_
                    first
                      | (have q := jz_Rel_p (S := S1) (k := 0 + 1) (S' := fun x => jh_I hm x 0) hRel0 (fun _ _ => rfl); rw [jS_self] at q; exact ⟨rfl, q⟩)
                      | (have q := jz_Rel_p (S := S3) (k := 0 + 1) (S' := fun x => jh_I hm x 0) hRel0 (fun _ _ => rfl); rw [jS_self] at q; exact ⟨rfl, q⟩)
                      | exact ⟨rfl, (jz_Rel_p hRel0 hS3)⟩
                      | exact ⟨rfl, (jz_Rel_p hRel0 hS2)⟩
                      | exact ⟨rfl, hRel0⟩
                      | (exfalso; omega)
                      | (exfalso; simp (disch := omega) only [Int32.lt_iff_toInt_lt, Int32.le_iff_toInt_le, ← Int32.toInt_inj, Int32.reduceToInt, nI_toInt] at c3JVcanBeAimedAt c1JVisLength c4JVisLength c9PollmayBe m1 m7 m5MDhasMonths m2MDisIn; done)
                      | (exfalso; simp (disch := omega) only [Int32.lt_iff_toInt_lt, Int32.le_iff_toInt_le, ← Int32.toInt_inj, Int32.reduceToInt, nI_toInt] at c3JVcanBeAimedAt c1JVisLength c4JVisLength c9PollmayBe m1 m7 m5MDhasMonths m2MDisIn; omega)
                  · refine jr_iload rfl rfl ?_
                    refine jr_iload rfl rfl ?_
                    refine jr_icmp_gt rfl (fun m5MDisIn => ?_) (fun m5MDisIn => ?_)
                    · refine jr_ic rfl ?_
                      refine jr_zret rfl rfl rfl (Nat.zero_le _) (Nat.zero_le _) ?_
                      refine jr_if_ne rfl (fun z => absurd (by decide) z) (fun _ => ?_)
                      refine jr_ic rfl ?_
                      refine jr_zret rfl rfl rfl (Nat.zero_le _) (Nat.zero_le _) ?_
                      refine jr_if_ne rfl (fun z => absurd (by decide) z) (fun _ => ?_)
                      refine jr_ic rfl ?_
                      refine jr_iret rfl rfl (Nat.zero_le _) (Nat.zero_le _) ?_
                      first
                        | (have q := jz_Rel_p (S := S1) (k := 0 + 1) (S' := fun x => jh_I hm x 0) hRel0 (fun _ _ => rfl); rw [jS_self] at q; exact ⟨rfl, q⟩)
                        | (have q := jz_Rel_p (S := S3) (k := 0 + 1) (S' := fun x => jh_I hm x 0) hRel0 (fun _ _ => rfl); rw [jS_self] at q; exact ⟨rfl, q⟩)
                        | exact ⟨rfl, (jz_Rel_p hRel0 hS3)⟩
                        | exact ⟨rfl, (jz_Rel_p hRel0 hS2)⟩
                        | exact ⟨rfl, hRel0⟩
                        | (exfalso; omega)
                        | (exfalso; simp (disch := omega) only [Int32.lt_iff_toInt_lt, Int32.le_iff_toInt_le, ← Int32.toInt_inj, Int32.reduceToInt, nI_toInt] at c3JVcanBeAimedAt c1JVisLength c4JVisLength c9PollmayBe m1 m7 m5MDhasMonths m2MDisIn m5MDisIn; done)
                        | (exfalso; simp (disch := omega) only [Int32.lt_iff_toInt_lt, Int32.le_iff_toInt_le, ← Int32.toInt_inj, Int32.reduceToInt, nI_toInt] at c3JVcanBeAimedAt c1JVisLength c4JVisLength c9PollmayBe m1 m7 m5MDhasMonths m2MDisIn m5MDisIn; omega)
                    · refine jr_ic rfl ?_
                      refine jr_goto rfl ?_
                      refine jr_zret rfl rfl rfl (Nat.zero_le _) (Nat.zero_le _) ?_
                      refine jr_if_ne rfl (fun _ => ?_) (fun z => absurd z (by decide))
                      refine jr_aload rfl rfl ?_
                      refine jr_cv0 (mc' := 0) (ms' := 0) rfl jm_MD_layVotes_n jm_MD_layVotes_f rfl rfl rfl rfl rfl rfl rfl (Nat.zero_le _) (Nat.zero_le _) ?_
                      first
                        | (exfalso; omega)
                        | (exfalso; simp (disch := omega) only [Int32.lt_iff_toInt_lt, Int32.le_iff_toInt_le, ← Int32.toInt_inj, Int32.reduceToInt, nI_toInt] at c3JVcanBeAimedAt c1JVisLength c4JVisLength c9PollmayBe m1 m7 m5MDhasMonths m2MDisIn m5MDisIn; done)
                        | (exfalso; simp (disch := omega) only [Int32.lt_iff_toInt_lt, Int32.le_iff_toInt_le, ← Int32.toInt_inj, Int32.reduceToInt, nI_toInt] at c3JVcanBeAimedAt c1JVisLength c4JVisLength c9PollmayBe m1 m7 m5MDhasMonths m2MDisIn m5MDisIn; omega)
          · refine jr_ic rfl ?_
            refine jr_goto rfl ?_
            refine jr_zret rfl rfl rfl (Nat.zero_le _) (Nat.zero_le _) ?_
            refine jr_zret rfl rfl rfl (Nat.zero_le _) (Nat.zero_le _) ?_
            refine jr_if_eq rfl (fun z => absurd z (by decide)) (fun _ => ?_)
            refine jr_iload rfl rfl ?_
            refine jr_aload rfl rfl ?_
            refine jr_getM rfl rfl rfl rfl hto ?_
            refine jr_getI rfl rfl ?_
            refine jr_cs2 (mc' := 0) (ms' := 0) rfl jm_JV_isSet_n jm_JV_isSet_f rfl rfl rfl rfl rfl (Nat.zero_le _) (Nat.zero_le _) ?_
            show jx_W (jm_JV_isSet, _, _, _, _, _, _) _ 0 0 0 [some _, some _] [] _
            refine jr_iload rfl rfl ?_
            refine jr_if_lt rfl (fun c1JVisSet => ?_) (fun c1JVisSet => ?_)
            · refine jr_ic rfl ?_
              refine jr_zret rfl rfl rfl (Nat.zero_le _) (Nat.zero_le _) ?_
              refine jr_if_ne rfl (fun z => absurd (by decide) z) (fun _ => ?_)
              refine jr_ic rfl ?_
              refine jr_iret rfl rfl (Nat.zero_le _) (Nat.zero_le _) ?_
              show jx_W (jm_MD_turned, d + 40, 0, 0, false, 1, _) _ 0 0 0 [some _, some _, some _] [] _
              refine jr_iload rfl rfl ?_
              refine jr_if_lt rfl (fun m1 => ?_) (fun m1 => ?_)
              · refine jr_ic rfl ?_
                refine jr_iret rfl rfl (Nat.zero_le _) (Nat.zero_le _) ?_
                first
                  | (have q := jz_Rel_p (S := S1) (k := 0 + 1) (S' := fun x => jh_I hm x 0) hRel0 (fun _ _ => rfl); rw [jS_self] at q; exact ⟨rfl, q⟩)
                  | (have q := jz_Rel_p (S := S3) (k := 0 + 1) (S' := fun x => jh_I hm x 0) hRel0 (fun _ _ => rfl); rw [jS_self] at q; exact ⟨rfl, q⟩)
                  | exact ⟨rfl, (jz_Rel_p hRel0 hS3)⟩
                  | exact ⟨rfl, (jz_Rel_p hRel0 hS2)⟩
                  | exact ⟨rfl, hRel0⟩
                  | (exfalso; omega)
                  | (exfalso; simp (disch := omega) only [Int32.lt_iff_toInt_lt, Int32.le_iff_toInt_le, ← Int32.toInt_inj, Int32.reduceToInt, nI_toInt] at c3JVcanBeAimedAt c1JVisLength c4JVisLength c9PollmayBe c1JVisSet m1; done)
                  | (exfalso; simp (disch := omega) only [Int32.lt_iff_toInt_lt, Int32.le_iff_toInt_le, ← Int32.toInt_inj, Int32.reduceToInt, nI_toInt] at c3JVcanBeAimedAt c1JVisLength c4JVisLength c9PollmayBe c1JVisSet m1; omega)
              · refine jr_iload rfl rfl ?_
                refine jr_ic rfl ?_
                refine jr_aload rfl rfl ?_
                refine jr_cv0 (mc' := 0) (ms' := 0) rfl jm_MD_personMany_n jm_MD_personMany_f rfl rfl rfl rfl rfl rfl rfl (Nat.zero_le _) (Nat.zero_le _) ?_
                show jx_W (jm_MD_personMany, _, _, _, _, _, _) _ 0 0 0 [some _] [] _
                refine jr_aload rfl rfl ?_
                refine jr_getR rfl rfl rfl rfl (Or.inl rfl) ?_
                refine jr_aload rfl rfl ?_
                refine jr_getI rfl rfl ?_
                refine jr_iald (len := 2) rfl rfl hw.1 (by omega) ?_
                refine jr_iret rfl rfl (Nat.zero_le _) (Nat.zero_le _) ?_
                refine jr_ishl rfl ?_
                refine jr_icmp_ge rfl (fun m7 => ?_) (fun m7 => ?_)
                · refine jr_ic rfl ?_
                  refine jr_iret rfl rfl (Nat.zero_le _) (Nat.zero_le _) ?_
                  first
                    | (have q := jz_Rel_p (S := S1) (k := 0 + 1) (S' := fun x => jh_I hm x 0) hRel0 (fun _ _ => rfl); rw [jS_self] at q; exact ⟨rfl, q⟩)
                    | (have q := jz_Rel_p (S := S3) (k := 0 + 1) (S' := fun x => jh_I hm x 0) hRel0 (fun _ _ => rfl); rw [jS_self] at q; exact ⟨rfl, q⟩)
                    | exact ⟨rfl, (jz_Rel_p hRel0 hS3)⟩
                    | exact ⟨rfl, (jz_Rel_p hRel0 hS2)⟩
                    | exact ⟨rfl, hRel0⟩
                    | (exfalso; omega)
                    | (exfalso; simp (disch := omega) only [Int32.lt_iff_toInt_lt, Int32.le_iff_toInt_le, ← Int32.toInt_inj, Int32.reduceToInt, nI_toInt] at c3JVcanBeAimedAt c1JVisLength c4JVisLength c9PollmayBe c1JVisSet m1 m7; done)
                    | (exfalso; simp (disch := omega) only [Int32.lt_iff_toInt_lt, Int32.le_iff_toInt_le, ← Int32.toInt_inj, Int32.reduceToInt, nI_toInt] at c3JVcanBeAimedAt c1JVisLength c4JVisLength c9PollmayBe c1JVisSet m1 m7; omega)
                · refine jr_aload rfl rfl ?_
                  refine jr_iload rfl rfl ?_
                  refine jr_cv1 (mc' := 0) (ms' := 0) rfl jm_MD_canTurnTo_n jm_MD_canTurnTo_f rfl rfl rfl rfl rfl rfl rfl (Nat.zero_le _) (Nat.zero_le _) ?_
                  show jx_W (jm_MD_canTurnTo, _, _, _, _, _, _) _ 0 0 0 [some _, some _, none] [] _
                  refine jr_aload rfl rfl ?_
                  refine jr_cv0 (mc' := 0) (ms' := 0) rfl jm_MD_hasMonths_n jm_MD_hasMonths_f rfl rfl rfl rfl rfl rfl rfl (Nat.zero_le _) (Nat.zero_le _) ?_
                  show jx_W (jm_MD_hasMonths, _, _, _, _, _, _) _ 0 0 0 [some _] [] _
                  refine jr_aload rfl rfl ?_
                  refine jr_getR rfl rfl rfl rfl (Or.inl rfl) ?_
                  refine jr_aload rfl rfl ?_
                  refine jr_getI rfl rfl ?_
                  refine jr_iald (len := 2) rfl rfl hw.1 (by omega) ?_
                  refine jr_if_le rfl (fun m5MDhasMonths => ?_) (fun m5MDhasMonths => ?_)
                  · refine jr_ic rfl ?_
                    refine jr_zret rfl rfl rfl (Nat.zero_le _) (Nat.zero_le _) ?_
                    refine jr_if_eq rfl (fun _ => ?_) (fun z => absurd (by decide) z)
                    refine jr_ic rfl ?_
                    refine jr_zret rfl rfl rfl (Nat.zero_le _) (Nat.zero_le _) ?_
                    refine jr_if_ne rfl (fun z => absurd (by decide) z) (fun _ => ?_)
                    refine jr_ic rfl ?_
                    refine jr_iret rfl rfl (Nat.zero_le _) (Nat.zero_le _) ?_
                    first
                      | (have q := jz_Rel_p (S := S1) (k := 0 + 1) (S' := fun x => jh_I hm x 0) hRel0 (fun _ _ => rfl); rw [jS_self] at q; exact ⟨rfl, q⟩)
                      | (have q := jz_Rel_p (S := S3) (k := 0 + 1) (S' := fun x => jh_I hm x 0) hRel0 (fun _ _ => rfl); rw [jS_self] at q; exact ⟨rfl, q⟩)
                      | exact ⟨rfl, (jz_Rel_p hRel0 hS3)⟩
                      | exact ⟨rfl, (jz_Rel_p hRel0 hS2)⟩
                      | exact ⟨rfl, hRel0⟩
                      | (exfalso; omega)
                      | (exfalso; simp (disch := omega) only [Int32.lt_iff_toInt_lt, Int32.le_iff_toInt_le, ← Int32.toInt_inj, Int32.reduceToInt, nI_toInt] at c3JVcanBeAimedAt c1JVisLength c4JVisLength c9PollmayBe c1JVisSet m1 m7 m5MDhasMonths; done)
                      | (exfalso; simp (disch := omega) only [Int32.lt_iff_toInt_lt, Int32.le_iff_toInt_le, ← Int32.toInt_inj, Int32.reduceToInt, nI_toInt] at c3JVcanBeAimedAt c1JVisLength c4JVisLength c9PollmayBe c1JVisSet m1 m7 m5MDhasMonths; omega)
                  · refine jr_ic rfl ?_
                    refine jr_goto rfl ?_
                    refine jr_zret rfl rfl rfl (Nat.zero_le _) (Nat.zero_le _) ?_
                    refine jr_if_eq rfl (fun z => absurd z (by decide)) (fun _ => ?_)
                    refine jr_iload rfl rfl ?_
                    refine jr_ic rfl ?_
                    refine jr_ic rfl ?_
                    refine jr_cs3 (mc' := 0) (ms' := 0) rfl jm_MD_isIn_n jm_MD_isIn_f rfl rfl rfl rfl rfl (Nat.zero_le _) (Nat.zero_le _) ?_
                    show jx_W (jm_MD_isIn, _, _, _, _, _, _) _ 0 0 0 [some _, some _, some _] [] _
                    refine jr_iload rfl rfl ?_
                    refine jr_iload rfl rfl ?_
                    refine jr_icmp_lt rfl (fun m2MDisIn => ?_) (fun m2MDisIn => ?_)
                    · refine jr_ic rfl ?_
                      refine jr_zret rfl rfl rfl (Nat.zero_le _) (Nat.zero_le _) ?_
                      refine jr_if_ne rfl (fun z => absurd (by decide) z) (fun _ => ?_)
                      refine jr_ic rfl ?_
                      refine jr_zret rfl rfl rfl (Nat.zero_le _) (Nat.zero_le _) ?_
                      refine jr_if_ne rfl (fun z => absurd (by decide) z) (fun _ => ?_)
                      refine jr_ic rfl ?_
                      refine jr_iret rfl rfl (Nat.zero_le _) (Nat.zero_le _) ?_
                      first
                        | (have q := jz_Rel_p (S := S1) (k := 0 + 1) (S' := fun x => jh_I hm x 0) hRel0 (fun _ _ => rfl); rw [jS_self] at q; exact ⟨rfl, q⟩)
                        | (have q := jz_Rel_p (S := S3) (k := 0 + 1) (S' := fun x => jh_I hm x 0) hRel0 (fun _ _ => rfl); rw [jS_self] at q; exact ⟨rfl, q⟩)
                        | exact ⟨rfl, (jz_Rel_p hRel0 hS3)⟩
                        | exact ⟨rfl, (jz_Rel_p hRel0 hS2)⟩
                        | exact ⟨rfl, hRel0⟩
                        | (exfalso; omega)
                        | (exfalso; simp (disch := omega) only [Int32.lt_iff_toInt_lt, Int32.le_iff_toInt_le, ← Int32.toInt_inj, Int32.reduceToInt, nI_toInt] at c3JVcanBeAimedAt c1JVisLength c4JVisLength c9PollmayBe c1JVisSet m1 m7 m5MDhasMonths m2MDisIn; done)
                        | (exfalso; simp (disch := omega) only [Int32.lt_iff_toInt_lt, Int32.le_iff_toInt_le, ← Int32.toInt_inj, Int32.reduceToInt, nI_toInt] at c3JVcanBeAimedAt c1JVisLength c4JVisLength c9PollmayBe c1JVisSet m1 m7 m5MDhasMonths m2MDisIn; omega)
                    · refine jr_iload rfl rfl ?_
                      refine jr_iload rfl rfl ?_
                      refine jr_icmp_gt rfl (fun m5MDisIn => ?_) (fun m5MDisIn => ?_)
                      · refine jr_ic rfl ?_
                        refine jr_zret rfl rfl rfl (Nat.zero_le _) (Nat.zero_le _) ?_
                        refine jr_if_ne rfl (fun z => absurd (by decide) z) (fun _ => ?_)
                        refine jr_ic rfl ?_
                        refine jr_zret rfl rfl rfl (Nat.zero_le _) (Nat.zero_le _) ?_
                        refine jr_if_ne rfl (fun z => absurd (by decide) z) (fun _ => ?_)
                        refine jr_ic rfl ?_
                        refine jr_iret rfl rfl (Nat.zero_le _) (Nat.zero_le _) ?_
                        first
                          | (have q := jz_Rel_p (S := S1) (k := 0 + 1) (S' := fun x => jh_I hm x 0) hRel0 (fun _ _ => rfl); rw [jS_self] at q; exact ⟨rfl, q⟩)
                          | (have q := jz_Rel_p (S := S3) (k := 0 + 1) (S' := fun x => jh_I hm x 0) hRel0 (fun _ _ => rfl); rw [jS_self] at q; exact ⟨rfl, q⟩)
                          | exact ⟨rfl, (jz_Rel_p hRel0 hS3)⟩
                          | exact ⟨rfl, (jz_Rel_p hRel0 hS2)⟩
                          | exact ⟨rfl, hRel0⟩
                          | (exfalso; omega)
                          | (exfalso; simp (disch := omega) only [Int32.lt_iff_toInt_lt, Int32.le_iff_toInt_le, ← Int32.toInt_inj, Int32.reduceToInt, nI_toInt] at c3JVcanBeAimedAt c1JVisLength c4JVisLength c9PollmayBe c1JVisSet m1 m7 m5MDhasMonths m2MDisIn m5MDisIn; done)
                          | (exfalso; simp (disch := omega) only [Int32.lt_iff_toInt_lt, Int32.le_iff_toInt_le, ← Int32.toInt_inj, Int32.reduceToInt, nI_toInt] at c3JVcanBeAimedAt c1JVisLength c4JVisLength c9PollmayBe c1JVisSet m1 m7 m5MDhasMonths m2MDisIn m5MDisIn; omega)
                      · refine jr_ic rfl ?_
                        refine jr_goto rfl ?_
                        refine jr_zret rfl rfl rfl (Nat.zero_le _) (Nat.zero_le _) ?_
                        refine jr_if_ne rfl (fun _ => ?_) (fun z => absurd z (by decide))
                        refine jr_aload rfl rfl ?_
                        refine jr_cv0 (mc' := 0) (ms' := 0) rfl jm_MD_layVotes_n jm_MD_layVotes_f rfl rfl rfl rfl rfl rfl rfl (Nat.zero_le _) (Nat.zero_le _) ?_
                        first
                          | (exfalso; omega)
                          | (exfalso; simp (disch := omega) only [Int32.lt_iff_toInt_lt, Int32.le_iff_toInt_le, ← Int32.toInt_inj, Int32.reduceToInt, nI_toInt] at c3JVcanBeAimedAt c1JVisLength c4JVisLength c9PollmayBe c1JVisSet m1 m7 m5MDhasMonths m2MDisIn m5MDisIn; done)
                          | (exfalso; simp (disch := omega) only [Int32.lt_iff_toInt_lt, Int32.le_iff_toInt_le, ← Int32.toInt_inj, Int32.reduceToInt, nI_toInt] at c3JVcanBeAimedAt c1JVisLength c4JVisLength c9PollmayBe c1JVisSet m1 m7 m5MDhasMonths m2MDisIn m5MDisIn; omega)
            · refine jr_iload rfl rfl ?_
              refine jr_ic rfl ?_
              refine jr_iload rfl rfl ?_
              refine jr_ishl rfl ?_
              refine jr_icmp_ge rfl (fun c6JVisSet => ?_) (fun c6JVisSet => ?_)
              · refine jr_ic rfl ?_
                refine jr_zret rfl rfl rfl (Nat.zero_le _) (Nat.zero_le _) ?_
                refine jr_if_ne rfl (fun z => absurd (by decide) z) (fun _ => ?_)
                refine jr_ic rfl ?_
                refine jr_iret rfl rfl (Nat.zero_le _) (Nat.zero_le _) ?_
                show jx_W (jm_MD_turned, d + 40, 0, 0, false, 1, _) _ 0 0 0 [some _, some _, some _] [] _
                refine jr_iload rfl rfl ?_
                refine jr_if_lt rfl (fun m1 => ?_) (fun m1 => ?_)
                · refine jr_ic rfl ?_
                  refine jr_iret rfl rfl (Nat.zero_le _) (Nat.zero_le _) ?_
                  first
                    | (have q := jz_Rel_p (S := S1) (k := 0 + 1) (S' := fun x => jh_I hm x 0) hRel0 (fun _ _ => rfl); rw [jS_self] at q; exact ⟨rfl, q⟩)
                    | (have q := jz_Rel_p (S := S3) (k := 0 + 1) (S' := fun x => jh_I hm x 0) hRel0 (fun _ _ => rfl); rw [jS_self] at q; exact ⟨rfl, q⟩)
                    | exact ⟨rfl, (jz_Rel_p hRel0 hS3)⟩
                    | exact ⟨rfl, (jz_Rel_p hRel0 hS2)⟩
                    | exact ⟨rfl, hRel0⟩
                    | (exfalso; omega)
                    | (exfalso; simp (disch := omega) only [Int32.lt_iff_toInt_lt, Int32.le_iff_toInt_le, ← Int32.toInt_inj, Int32.reduceToInt, nI_toInt] at c3JVcanBeAimedAt c1JVisLength c4JVisLength c9PollmayBe c1JVisSet c6JVisSet m1; done)
                    | (exfalso; simp (disch := omega) only [Int32.lt_iff_toInt_lt, Int32.le_iff_toInt_le, ← Int32.toInt_inj, Int32.reduceToInt, nI_toInt] at c3JVcanBeAimedAt c1JVisLength c4JVisLength c9PollmayBe c1JVisSet c6JVisSet m1; omega)
                · refine jr_iload rfl rfl ?_
                  refine jr_ic rfl ?_
                  refine jr_aload rfl rfl ?_
                  refine jr_cv0 (mc' := 0) (ms' := 0) rfl jm_MD_personMany_n jm_MD_personMany_f rfl rfl rfl rfl rfl rfl rfl (Nat.zero_le _) (Nat.zero_le _) ?_
                  show jx_W (jm_MD_personMany, _, _, _, _, _, _) _ 0 0 0 [some _] [] _
                  refine jr_aload rfl rfl ?_
                  refine jr_getR rfl rfl rfl rfl (Or.inl rfl) ?_
                  refine jr_aload rfl rfl ?_
                  refine jr_getI rfl rfl ?_
                  refine jr_iald (len := 2) rfl rfl hw.1 (by omega) ?_
                  refine jr_iret rfl rfl (Nat.zero_le _) (Nat.zero_le _) ?_
                  refine jr_ishl rfl ?_
                  refine jr_icmp_ge rfl (fun m7 => ?_) (fun m7 => ?_)
                  · refine jr_ic rfl ?_
                    refine jr_iret rfl rfl (Nat.zero_le _) (Nat.zero_le _) ?_
                    first
                      | (have q := jz_Rel_p (S := S1) (k := 0 + 1) (S' := fun x => jh_I hm x 0) hRel0 (fun _ _ => rfl); rw [jS_self] at q; exact ⟨rfl, q⟩)
                      | (have q := jz_Rel_p (S := S3) (k := 0 + 1) (S' := fun x => jh_I hm x 0) hRel0 (fun _ _ => rfl); rw [jS_self] at q; exact ⟨rfl, q⟩)
                      | exact ⟨rfl, (jz_Rel_p hRel0 hS3)⟩
                      | exact ⟨rfl, (jz_Rel_p hRel0 hS2)⟩
                      | exact ⟨rfl, hRel0⟩
                      | (exfalso; omega)
                      | (exfalso; simp (disch := omega) only [Int32.lt_iff_toInt_lt, Int32.le_iff_toInt_le, ← Int32.toInt_inj, Int32.reduceToInt, nI_toInt] at c3JVcanBeAimedAt c1JVisLength c4JVisLength c9PollmayBe c1JVisSet c6JVisSet m1 m7; done)
                      | (exfalso; simp (disch := omega) only [Int32.lt_iff_toInt_lt, Int32.le_iff_toInt_le, ← Int32.toInt_inj, Int32.reduceToInt, nI_toInt] at c3JVcanBeAimedAt c1JVisLength c4JVisLength c9PollmayBe c1JVisSet c6JVisSet m1 m7; omega)
                  · refine jr_aload rfl rfl ?_
                    refine jr_iload rfl rfl ?_
                    refine jr_cv1 (mc' := 0) (ms' := 0) rfl jm_MD_canTurnTo_n jm_MD_canTurnTo_f rfl rfl rfl rfl rfl rfl rfl (Nat.zero_le _) (Nat.zero_le _) ?_
                    show jx_W (jm_MD_canTurnTo, _, _, _, _, _, _) _ 0 0 0 [some _, some _, none] [] _
                    refine jr_aload rfl rfl ?_
                    refine jr_cv0 (mc' := 0) (ms' := 0) rfl jm_MD_hasMonths_n jm_MD_hasMonths_f rfl rfl rfl rfl rfl rfl rfl (Nat.zero_le _) (Nat.zero_le _) ?_
                    show jx_W (jm_MD_hasMonths, _, _, _, _, _, _) _ 0 0 0 [some _] [] _
                    refine jr_aload rfl rfl ?_
                    refine jr_getR rfl rfl rfl rfl (Or.inl rfl) ?_
                    refine jr_aload rfl rfl ?_
                    refine jr_getI rfl rfl ?_
                    refine jr_iald (len := 2) rfl rfl hw.1 (by omega) ?_
                    refine jr_if_le rfl (fun m5MDhasMonths => ?_) (fun m5MDhasMonths => ?_)
                    · refine jr_ic rfl ?_
                      refine jr_zret rfl rfl rfl (Nat.zero_le _) (Nat.zero_le _) ?_
                      refine jr_if_eq rfl (fun _ => ?_) (fun z => absurd (by decide) z)
                      refine jr_ic rfl ?_
                      refine jr_zret rfl rfl rfl (Nat.zero_le _) (Nat.zero_le _) ?_
                      refine jr_if_ne rfl (fun z => absurd (by decide) z) (fun _ => ?_)
                      refine jr_ic rfl ?_
                      refine jr_iret rfl rfl (Nat.zero_le _) (Nat.zero_le _) ?_
                      first
                        | (have q := jz_Rel_p (S := S1) (k := 0 + 1) (S' := fun x => jh_I hm x 0) hRel0 (fun _ _ => rfl); rw [jS_self] at q; exact ⟨rfl, q⟩)
                        | (have q := jz_Rel_p (S := S3) (k := 0 + 1) (S' := fun x => jh_I hm x 0) hRel0 (fun _ _ => rfl); rw [jS_self] at q; exact ⟨rfl, q⟩)
                        | exact ⟨rfl, (jz_Rel_p hRel0 hS3)⟩
                        | exact ⟨rfl, (jz_Rel_p hRel0 hS2)⟩
                        | exact ⟨rfl, hRel0⟩
                        | (exfalso; omega)
                        | (exfalso; simp (disch := omega) only [Int32.lt_iff_toInt_lt, Int32.le_iff_toInt_le, ← Int32.toInt_inj, Int32.reduceToInt, nI_toInt] at c3JVcanBeAimedAt c1JVisLength c4JVisLength c9PollmayBe c1JVisSet c6JVisSet m1 m7 m5MDhasMonths; done)
                        | (exfalso; simp (disch := omega) only [Int32.lt_iff_toInt_lt, Int32.le_iff_toInt_le, ← Int32.toInt_inj, Int32.reduceToInt, nI_toInt] at c3JVcanBeAimedAt c1JVisLength c4JVisLength c9PollmayBe c1JVisSet c6JVisSet m1 m7 m5MDhasMonths; omega)
                    · refine jr_ic rfl ?_
                      refine jr_goto rfl ?_
                      refine jr_zret rfl rfl rfl (Nat.zero_le _) (Nat.zero_le _) ?_
                      refine jr_if_eq rfl (fun z => absurd z (by decide)) (fun _ => ?_)
                      refine jr_iload rfl rfl ?_
                      refine jr_ic rfl ?_
                      refine jr_ic rfl ?_
                      refine jr_cs3 (mc' := 0) (ms' := 0) rfl jm_MD_isIn_n jm_MD_isIn_f rfl rfl rfl rfl rfl (Nat.zero_le _) (Nat.zero_le _) ?_
                      show jx_W (jm_MD_isIn, _, _, _, _, _, _) _ 0 0 0 [some _, some _, some _] [] _
                      refine jr_iload rfl rfl ?_
                      refine jr_iload rfl rfl ?_
                      refine jr_icmp_lt rfl (fun m2MDisIn => ?_) (fun m2MDisIn => ?_)
                      · refine jr_ic rfl ?_
                        refine jr_zret rfl rfl rfl (Nat.zero_le _) (Nat.zero_le _) ?_
                        refine jr_if_ne rfl (fun z => absurd (by decide) z) (fun _ => ?_)
                        refine jr_ic rfl ?_
                        refine jr_zret rfl rfl rfl (Nat.zero_le _) (Nat.zero_le _) ?_
                        refine jr_if_ne rfl (fun z => absurd (by decide) z) (fun _ => ?_)
                        refine jr_ic rfl ?_
                        refine jr_iret rfl rfl (Nat.zero_le _) (Nat.zero_le _) ?_
                        first
                          | (have q := jz_Rel_p (S := S1) (k := 0 + 1) (S' := fun x => jh_I hm x 0) hRel0 (fun _ _ => rfl); rw [jS_self] at q; exact ⟨rfl, q⟩)
                          | (have q := jz_Rel_p (S := S3) (k := 0 + 1) (S' := fun x => jh_I hm x 0) hRel0 (fun _ _ => rfl); rw [jS_self] at q; exact ⟨rfl, q⟩)
                          | exact ⟨rfl, (jz_Rel_p hRel0 hS3)⟩
                          | exact ⟨rfl, (jz_Rel_p hRel0 hS2)⟩
                          | exact ⟨rfl, hRel0⟩
                          | (exfalso; omega)
                          | (exfalso; simp (disch := omega) only [Int32.lt_iff_toInt_lt, Int32.le_iff_toInt_le, ← Int32.toInt_inj, Int32.reduceToInt, nI_toInt] at c3JVcanBeAimedAt c1JVisLength c4JVisLength c9PollmayBe c1JVisSet c6JVisSet m1 m7 m5MDhasMonths m2MDisIn; done)
                          | (exfalso; simp (disch := omega) only [Int32.lt_iff_toInt_lt, Int32.le_iff_toInt_le, ← Int32.toInt_inj, Int32.reduceToInt, nI_toInt] at c3JVcanBeAimedAt c1JVisLength c4JVisLength c9PollmayBe c1JVisSet c6JVisSet m1 m7 m5MDhasMonths m2MDisIn; omega)
                      · refine jr_iload rfl rfl ?_
                        refine jr_iload rfl rfl ?_
                        refine jr_icmp_gt rfl (fun m5MDisIn => ?_) (fun m5MDisIn => ?_)
                        · refine jr_ic rfl ?_
                          refine jr_zret rfl rfl rfl (Nat.zero_le _) (Nat.zero_le _) ?_
                          refine jr_if_ne rfl (fun z => absurd (by decide) z) (fun _ => ?_)
                          refine jr_ic rfl ?_
                          refine jr_zret rfl rfl rfl (Nat.zero_le _) (Nat.zero_le _) ?_
                          refine jr_if_ne rfl (fun z => absurd (by decide) z) (fun _ => ?_)
                          refine jr_ic rfl ?_
                          refine jr_iret rfl rfl (Nat.zero_le _) (Nat.zero_le _) ?_
                          first
                            | (have q := jz_Rel_p (S := S1) (k := 0 + 1) (S' := fun x => jh_I hm x 0) hRel0 (fun _ _ => rfl); rw [jS_self] at q; exact ⟨rfl, q⟩)
                            | (have q := jz_Rel_p (S := S3) (k := 0 + 1) (S' := fun x => jh_I hm x 0) hRel0 (fun _ _ => rfl); rw [jS_self] at q; exact ⟨rfl, q⟩)
                            | exact ⟨rfl, (jz_Rel_p hRel0 hS3)⟩
                            | exact ⟨rfl, (jz_Rel_p hRel0 hS2)⟩
                            | exact ⟨rfl, hRel0⟩
                            | (exfalso; omega)
                            | (exfalso; simp (disch := omega) only [Int32.lt_iff_toInt_lt, Int32.le_iff_toInt_le, ← Int32.toInt_inj, Int32.reduceToInt, nI_toInt] at c3JVcanBeAimedAt c1JVisLength c4JVisLength c9PollmayBe c1JVisSet c6JVisSet m1 m7 m5MDhasMonths m2MDisIn m5MDisIn; done)
                            | (exfalso; simp (disch := omega) only [Int32.lt_iff_toInt_lt, Int32.le_iff_toInt_le, ← Int32.toInt_inj, Int32.reduceToInt, nI_toInt] at c3JVcanBeAimedAt c1JVisLength c4JVisLength c9PollmayBe c1JVisSet c6JVisSet m1 m7 m5MDhasMonths m2MDisIn m5MDisIn; omega)
                        · refine jr_ic rfl ?_
                          refine jr_goto rfl ?_
                          refine jr_zret rfl rfl rfl (Nat.zero_le _) (Nat.zero_le _) ?_
                          refine jr_if_ne rfl (fun _ => ?_) (fun z => absurd z (by decide))
                          refine jr_aload rfl rfl ?_
                          refine jr_cv0 (mc' := 0) (ms' := 0) rfl jm_MD_layVotes_n jm_MD_layVotes_f rfl rfl rfl rfl rfl rfl rfl (Nat.zero_le _) (Nat.zero_le _) ?_
                          first
                            | (exfalso; omega)
                            | (exfalso; simp (disch := omega) only [Int32.lt_iff_toInt_lt, Int32.le_iff_toInt_le, ← Int32.toInt_inj, Int32.reduceToInt, nI_toInt] at c3JVcanBeAimedAt c1JVisLength c4JVisLength c9PollmayBe c1JVisSet c6JVisSet m1 m7 m5MDhasMonths m2MDisIn m5MDisIn; done)
                            | (exfalso; simp (disch := omega) only [Int32.lt_iff_toInt_lt, Int32.le_iff_toInt_le, ← Int32.toInt_inj, Int32.reduceToInt, nI_toInt] at c3JVcanBeAimedAt c1JVisLength c4JVisLength c9PollmayBe c1JVisSet c6JVisSet m1 m7 m5MDhasMonths m2MDisIn m5MDisIn; omega)
              · refine jr_ic rfl ?_
                refine jr_goto rfl ?_
                refine jr_zret rfl rfl rfl (Nat.zero_le _) (Nat.zero_le _) ?_
                refine jr_if_ne rfl (fun _ => ?_) (fun z => absurd z (by decide))
                refine jr_aload rfl rfl ?_
                refine jr_getR rfl rfl rfl rfl (Or.inl rfl) ?_
                refine jr_iload rfl rfl ?_
                refine jr_iload rfl rfl ?_
                refine jr_cv2 (mc' := 0) (ms' := 0) rfl jm_Sway_turns_n jm_Sway_turns_f rfl rfl rfl rfl rfl rfl rfl (Nat.zero_le _) (Nat.zero_le _) ?_
                first
                  | (exfalso; omega)
                  | (exfalso; simp (disch := omega) only [Int32.lt_iff_toInt_lt, Int32.le_iff_toInt_le, ← Int32.toInt_inj, Int32.reduceToInt, nI_toInt] at c3JVcanBeAimedAt c1JVisLength c4JVisLength c9PollmayBe c1JVisSet c6JVisSet; done)
                  | (exfalso; simp (disch := omega) only [Int32.lt_iff_toInt_lt, Int32.le_iff_toInt_le, ← Int32.toInt_inj, Int32.reduceToInt, nI_toInt] at c3JVcanBeAimedAt c1JVisLength c4JVisLength c9PollmayBe c1JVisSet c6JVisSet; omega)
    · refine jr_ic rfl ?_
      refine jr_zret rfl rfl rfl (Nat.zero_le _) (Nat.zero_le _) ?_
      refine jr_if_eq rfl (fun _ => ?_) (fun z => absurd (by decide) z)
      refine jr_ic rfl ?_
      refine jr_iret rfl rfl (Nat.zero_le _) (Nat.zero_le _) ?_
      show jx_W (jm_MD_turned, d + 40, 0, 0, false, 1, _) _ 0 0 0 [some _, some _, some _] [] _
      refine jr_iload rfl rfl ?_
      refine jr_if_lt rfl (fun m1 => ?_) (fun m1 => ?_)
      · refine jr_ic rfl ?_
        refine jr_iret rfl rfl (Nat.zero_le _) (Nat.zero_le _) ?_
        first
          | (have q := jz_Rel_p (S := S1) (k := 0 + 1) (S' := fun x => jh_I hm x 0) hRel0 (fun _ _ => rfl); rw [jS_self] at q; exact ⟨rfl, q⟩)
          | (have q := jz_Rel_p (S := S3) (k := 0 + 1) (S' := fun x => jh_I hm x 0) hRel0 (fun _ _ => rfl); rw [jS_self] at q; exact ⟨rfl, q⟩)
          | exact ⟨rfl, (jz_Rel_p hRel0 hS3)⟩
          | exact ⟨rfl, (jz_Rel_p hRel0 hS2)⟩
          | exact ⟨rfl, hRel0⟩
          | (exfalso; omega)
          | (exfalso; simp (disch := omega) only [Int32.lt_iff_toInt_lt, Int32.le_iff_toInt_le, ← Int32.toInt_inj, Int32.reduceToInt, nI_toInt] at c3JVcanBeAimedAt m1; done)
          | (exfalso; simp (disch := omega) only [Int32.lt_iff_toInt_lt, Int32.le_iff_toInt_le, ← Int32.toInt_inj, Int32.reduceToInt, nI_toInt] at c3JVcanBeAimedAt m1; omega)
      · refine jr_iload rfl rfl ?_
        refine jr_ic rfl ?_
        refine jr_aload rfl rfl ?_
        refine jr_cv0 (mc' := 0) (ms' := 0) rfl jm_MD_personMany_n jm_MD_personMany_f rfl rfl rfl rfl rfl rfl rfl (Nat.zero_le _) (Nat.zero_le _) ?_
        show jx_W (jm_MD_personMany, _, _, _, _, _, _) _ 0 0 0 [some _] [] _
        refine jr_aload rfl rfl ?_
        refine jr_getR rfl rfl rfl rfl (Or.inl rfl) ?_
        refine jr_aload rfl rfl ?_
        refine jr_getI rfl rfl ?_
        refine jr_iald (len := 2) rfl rfl hw.1 (by omega) ?_
        refine jr_iret rfl rfl (Nat.zero_le _) (Nat.zero_le _) ?_
        refine jr_ishl rfl ?_
        refine jr_icmp_ge rfl (fun m7 => ?_) (fun m7 => ?_)
        · refine jr_ic rfl ?_
          refine jr_iret rfl rfl (Nat.zero_le _) (Nat.zero_le _) ?_
          first
            | (have q := jz_Rel_p (S := S1) (k := 0 + 1) (S' := fun x => jh_I hm x 0) hRel0 (fun _ _ => rfl); rw [jS_self] at q; exact ⟨rfl, q⟩)
            | (have q := jz_Rel_p (S := S3) (k := 0 + 1) (S' := fun x => jh_I hm x 0) hRel0 (fun _ _ => rfl); rw [jS_self] at q; exact ⟨rfl, q⟩)
            | exact ⟨rfl, (jz_Rel_p hRel0 hS3)⟩
            | exact ⟨rfl, (jz_Rel_p hRel0 hS2)⟩
            | exact ⟨rfl, hRel0⟩
            | (exfalso; omega)
            | (exfalso; simp (disch := omega) only [Int32.lt_iff_toInt_lt, Int32.le_iff_toInt_le, ← Int32.toInt_inj, Int32.reduceToInt, nI_toInt] at c3JVcanBeAimedAt m1 m7; done)
            | (exfalso; simp (disch := omega) only [Int32.lt_iff_toInt_lt, Int32.le_iff_toInt_le, ← Int32.toInt_inj, Int32.reduceToInt, nI_toInt] at c3JVcanBeAimedAt m1 m7; omega)
        · refine jr_aload rfl rfl ?_
          refine jr_iload rfl rfl ?_
          refine jr_cv1 (mc' := 0) (ms' := 0) rfl jm_MD_canTurnTo_n jm_MD_canTurnTo_f rfl rfl rfl rfl rfl rfl rfl (Nat.zero_le _) (Nat.zero_le _) ?_
          show jx_W (jm_MD_canTurnTo, _, _, _, _, _, _) _ 0 0 0 [some _, some _, none] [] _
          refine jr_aload rfl rfl ?_
          refine jr_cv0 (mc' := 0) (ms' := 0) rfl jm_MD_hasMonths_n jm_MD_hasMonths_f rfl rfl rfl rfl rfl rfl rfl (Nat.zero_le _) (Nat.zero_le _) ?_
          show jx_W (jm_MD_hasMonths, _, _, _, _, _, _) _ 0 0 0 [some _] [] _
          refine jr_aload rfl rfl ?_
          refine jr_getR rfl rfl rfl rfl (Or.inl rfl) ?_
          refine jr_aload rfl rfl ?_
          refine jr_getI rfl rfl ?_
          refine jr_iald (len := 2) rfl rfl hw.1 (by omega) ?_
          refine jr_if_le rfl (fun m5MDhasMonths => ?_) (fun m5MDhasMonths => ?_)
          · refine jr_ic rfl ?_
            refine jr_zret rfl rfl rfl (Nat.zero_le _) (Nat.zero_le _) ?_
            refine jr_if_eq rfl (fun _ => ?_) (fun z => absurd (by decide) z)
            refine jr_ic rfl ?_
            refine jr_zret rfl rfl rfl (Nat.zero_le _) (Nat.zero_le _) ?_
            refine jr_if_ne rfl (fun z => absurd (by decide) z) (fun _ => ?_)
            refine jr_ic rfl ?_
            refine jr_iret rfl rfl (Nat.zero_le _) (Nat.zero_le _) ?_
            first
              | (have q := jz_Rel_p (S := S1) (k := 0 + 1) (S' := fun x => jh_I hm x 0) hRel0 (fun _ _ => rfl); rw [jS_self] at q; exact ⟨rfl, q⟩)
              | (have q := jz_Rel_p (S := S3) (k := 0 + 1) (S' := fun x => jh_I hm x 0) hRel0 (fun _ _ => rfl); rw [jS_self] at q; exact ⟨rfl, q⟩)
              | exact ⟨rfl, (jz_Rel_p hRel0 hS3)⟩
              | exact ⟨rfl, (jz_Rel_p hRel0 hS2)⟩
              | exact ⟨rfl, hRel0⟩
              | (exfalso; omega)
              | (exfalso; simp (disch := omega) only [Int32.lt_iff_toInt_lt, Int32.le_iff_toInt_le, ← Int32.toInt_inj, Int32.reduceToInt, nI_toInt] at c3JVcanBeAimedAt m1 m7 m5MDhasMonths; done)
              | (exfalso; simp (disch := omega) only [Int32.lt_iff_toInt_lt, Int32.le_iff_toInt_le, ← Int32.toInt_inj, Int32.reduceToInt, nI_toInt] at c3JVcanBeAimedAt m1 m7 m5MDhasMonths; omega)
          · refine jr_ic rfl ?_
            refine jr_goto rfl ?_
            refine jr_zret rfl rfl rfl (Nat.zero_le _) (Nat.zero_le _) ?_
            refine jr_if_eq rfl (fun z => absurd z (by decide)) (fun _ => ?_)
            refine jr_iload rfl rfl ?_
            refine jr_ic rfl ?_
            refine jr_ic rfl ?_
            refine jr_cs3 (mc' := 0) (ms' := 0) rfl jm_MD_isIn_n jm_MD_isIn_f rfl rfl rfl rfl rfl (Nat.zero_le _) (Nat.zero_le _) ?_
            show jx_W (jm_MD_isIn, _, _, _, _, _, _) _ 0 0 0 [some _, some _, some _] [] _
            refine jr_iload rfl rfl ?_
            refine jr_iload rfl rfl ?_
            refine jr_icmp_lt rfl (fun m2MDisIn => ?_) (fun m2MDisIn => ?_)
            · refine jr_ic rfl ?_
              refine jr_zret rfl rfl rfl (Nat.zero_le _) (Nat.zero_le _) ?_
              refine jr_if_ne rfl (fun z => absurd (by decide) z) (fun _ => ?_)
              refine jr_ic rfl ?_
              refine jr_zret rfl rfl rfl (Nat.zero_le _) (Nat.zero_le _) ?_
              refine jr_if_ne rfl (fun z => absurd (by decide) z) (fun _ => ?_)
              refine jr_ic rfl ?_
              refine jr_iret rfl rfl (Nat.zero_le _) (Nat.zero_le _) ?_
              first
                | (have q := jz_Rel_p (S := S1) (k := 0 + 1) (S' := fun x => jh_I hm x 0) hRel0 (fun _ _ => rfl); rw [jS_self] at q; exact ⟨rfl, q⟩)
                | (have q := jz_Rel_p (S := S3) (k := 0 + 1) (S' := fun x => jh_I hm x 0) hRel0 (fun _ _ => rfl); rw [jS_self] at q; exact ⟨rfl, q⟩)
                | exact ⟨rfl, (jz_Rel_p hRel0 hS3)⟩
                | exact ⟨rfl, (jz_Rel_p hRel0 hS2)⟩
                | exact ⟨rfl, hRel0⟩
                | (exfalso; omega)
                | (exfalso; simp (disch := omega) only [Int32.lt_iff_toInt_lt, Int32.le_iff_toInt_le, ← Int32.toInt_inj, Int32.reduceToInt, nI_toInt] at c3JVcanBeAimedAt m1 m7 m5MDhasMonths m2MDisIn; done)
                | (exfalso; simp (disch := omega) only [Int32.lt_iff_toInt_lt, Int32.le_iff_toInt_le, ← Int32.toInt_inj, Int32.reduceToInt, nI_toInt] at c3JVcanBeAimedAt m1 m7 m5MDhasMonths m2MDisIn; omega)
            · refine jr_iload rfl rfl ?_
              refine jr_iload rfl rfl ?_
              refine jr_icmp_gt rfl (fun m5MDisIn => ?_) (fun m5MDisIn => ?_)
              · refine jr_ic rfl ?_
                refine jr_zret rfl rfl rfl (Nat.zero_le _) (Nat.zero_le _) ?_
                refine jr_if_ne rfl (fun z => absurd (by decide) z) (fun _ => ?_)
                refine jr_ic rfl ?_
                refine jr_zret rfl rfl rfl (Nat.zero_le _) (Nat.zero_le _) ?_
                refine jr_if_ne rfl (fun z => absurd (by decide) z) (fun _ => ?_)
                refine jr_ic rfl ?_
                refine jr_iret rfl rfl (Nat.zero_le _) (Nat.zero_le _) ?_
                first
                  | (have q := jz_Rel_p (S := S1) (k := 0 + 1) (S' := fun x => jh_I hm x 0) hRel0 (fun _ _ => rfl); rw [jS_self] at q; exact ⟨rfl, q⟩)
                  | (have q := jz_Rel_p (S := S3) (k := 0 + 1) (S' := fun x => jh_I hm x 0) hRel0 (fun _ _ => rfl); rw [jS_self] at q; exact ⟨rfl, q⟩)
                  | exact ⟨rfl, (jz_Rel_p hRel0 hS3)⟩
                  | exact ⟨rfl, (jz_Rel_p hRel0 hS2)⟩
                  | exact ⟨rfl, hRel0⟩
                  | (exfalso; omega)
                  | (exfalso; simp (disch := omega) only [Int32.lt_iff_toInt_lt, Int32.le_iff_toInt_le, ← Int32.toInt_inj, Int32.reduceToInt, nI_toInt] at c3JVcanBeAimedAt m1 m7 m5MDhasMonths m2MDisIn m5MDisIn; done)
                  | (exfalso; simp (disch := omega) only [Int32.lt_iff_toInt_lt, Int32.le_iff_toInt_le, ← Int32.toInt_inj, Int32.reduceToInt, nI_toInt] at c3JVcanBeAimedAt m1 m7 m5MDhasMonths m2MDisIn m5MDisIn; omega)
              · refine jr_ic rfl ?_
                refine jr_goto rfl ?_
                refine jr_zret rfl rfl rfl (Nat.zero_le _) (Nat.zero_le _) ?_
                refine jr_if_ne rfl (fun _ => ?_) (fun z => absurd z (by decide))
                refine jr_aload rfl rfl ?_
                refine jr_cv0 (mc' := 0) (ms' := 0) rfl jm_MD_layVotes_n jm_MD_layVotes_f rfl rfl rfl rfl rfl rfl rfl (Nat.zero_le _) (Nat.zero_le _) ?_
                first
                  | (exfalso; omega)
                  | (exfalso; simp (disch := omega) only [Int32.lt_iff_toInt_lt, Int32.le_iff_toInt_le, ← Int32.toInt_inj, Int32.reduceToInt, nI_toInt] at c3JVcanBeAimedAt m1 m7 m5MDhasMonths m2MDisIn m5MDisIn; done)
                  | (exfalso; simp (disch := omega) only [Int32.lt_iff_toInt_lt, Int32.le_iff_toInt_le, ← Int32.toInt_inj, Int32.reduceToInt, nI_toInt] at c3JVcanBeAimedAt m1 m7 m5MDhasMonths m2MDisIn m5MDisIn; omega)

set_option maxHeartbeats 800000 in
set_option maxRecDepth 100000 in
theorem pd_least {d : Nat} {hc hm : jx_H} {x : Int32} (hRel : jz_Rel hc hm) : jx_Ev jm_JV_least (d + 40) 0 0 false 0 [jv_r 10 0, jv_i x] hc (fun r hc' => jx_Ev jm_MD_least (d + 40) 0 0 false 1 [jv_r 11 0, jv_i x] hm (fun r' hm' => r = r' ∧ jz_Rel hc' hm')) := by
  have hRel0 := hRel
  obtain ⟨b, r, ⟨hw, hG, hr2, hto, hsp, hR, hA, hL⟩, hTa, hFa, hLy, hTi, hLe, hBo, hAc, hWo⟩ := hRel
  have hb2 := hw.2.1
  have hnm := hw.2.2.1.1
  have hnm5 := hnm.2
  have km1 : (jh_I hc 7 r 0).toInt = (jz_nm hm b : Int) := by rw [hR.1]; exact (congrArg Int32.toInt hnm.1).trans (nI_toInt (by omega))
  have km2 : (jh_I hm 66 0 b).toInt = (jz_nm hm b : Int) := (congrArg Int32.toInt hnm.1).trans (nI_toInt (by omega))
  have km3 : (jh_I hm 66 0 b - 1).toInt = (jz_nm hm b : Int) - 1 := by rw [Int32.toInt_sub, km2, show (1 : Int32).toInt = 1 from rfl]; exact jn_sm (by omega) (by omega)
  have hnp0 := hw.2.2.1.2.1
  have es1 : ((1 : Int32) <<< (jh_I hc 7 r 3 &&& 31)) = nI (2 ^ jz_np hm b) := by rw [show jh_I hc 7 r 3 = nI (jz_np hm b) from hR.2.1.trans hnp0.1]; exact jw_1sh hnp0.2
  have es2 : ((1 : Int32) <<< (jh_I hm 67 0 b &&& 31)) = nI (2 ^ jz_np hm b) := by rw [hnp0.1]; exact jw_1sh hnp0.2
  have e2p : 2 ^ jz_np hm b ≤ 32 := jw_2p hnp0.2
  rcases jz_3 (A := jC hm b 0 0 = 0) x 0 31 (by decide) with hmo | ⟨hmo, i, rfl, -, hi, hi2⟩ | ⟨hmo, hi⟩
  · have hn0 : (jz_nm hm b : Int) = 0 := by rw [← km2]; exact congrArg Int32.toInt hmo
    show jx_W (jm_JV_least, d + 40, 0, 0, false, 0, _) _ 0 0 0 [some (jv_r 10 0), some (jv_i x)] [] _
    refine jr_aload rfl rfl ?_
    refine jr_iload rfl rfl ?_
    refine jr_cv1 (mc' := 0) (ms' := 0) rfl jm_JV_canBeAimedAt_n jm_JV_canBeAimedAt_f rfl rfl rfl rfl rfl rfl rfl (Nat.zero_le _) (Nat.zero_le _) ?_
    show jx_W (jm_JV_canBeAimedAt, _, _, _, _, _, _) _ 0 0 0 [some _, some _] [] _
    refine jr_aload rfl rfl ?_
    refine jr_getM rfl rfl rfl rfl hto ?_
    refine jr_getI rfl rfl ?_
    refine jr_if_ne rfl (fun c3JVcanBeAimedAt => ?_) (fun c3JVcanBeAimedAt => ?_)
    · refine jr_aload rfl rfl ?_
      refine jr_getR rfl rfl rfl rfl (Or.inl rfl) ?_
      refine jr_aload rfl rfl ?_
      refine jr_getR rfl rfl rfl rfl (Or.inl rfl) ?_
      refine jr_cv1 (mc' := 0) (ms' := 0) rfl jm_Sway_begin_n jm_Sway_begin_f rfl rfl rfl rfl rfl rfl rfl (Nat.zero_le _) (Nat.zero_le _) ?_
      first
        | (exfalso; omega)
        | (exfalso; simp (disch := omega) only [Int32.lt_iff_toInt_lt, Int32.le_iff_toInt_le, ← Int32.toInt_inj, Int32.reduceToInt, nI_toInt] at c3JVcanBeAimedAt; done)
        | (exfalso; simp (disch := omega) only [Int32.lt_iff_toInt_lt, Int32.le_iff_toInt_le, ← Int32.toInt_inj, Int32.reduceToInt, nI_toInt] at c3JVcanBeAimedAt; omega)
    · refine jr_ic rfl ?_
      refine jr_zret rfl rfl rfl (Nat.zero_le _) (Nat.zero_le _) ?_
      refine jr_if_eq rfl (fun _ => ?_) (fun z => absurd (by decide) z)
      refine jr_ic rfl ?_
      refine jr_iret rfl rfl (Nat.zero_le _) (Nat.zero_le _) ?_
      show jx_W (jm_MD_least, d + 40, 0, 0, false, 1, _) _ 0 0 0 [some _, some _, none, none] [] _
      refine jr_aload rfl rfl ?_
      refine jr_iload rfl rfl ?_
      refine jr_cv1 (mc' := 0) (ms' := 0) rfl jm_MD_canTurnTo_n jm_MD_canTurnTo_f rfl rfl rfl rfl rfl rfl rfl (Nat.zero_le _) (Nat.zero_le _) ?_
      show jx_W (jm_MD_canTurnTo, _, _, _, _, _, _) _ 0 0 0 [some _, some _, none] [] _
      refine jr_aload rfl rfl ?_
      refine jr_cv0 (mc' := 0) (ms' := 0) rfl jm_MD_hasMonths_n jm_MD_hasMonths_f rfl rfl rfl rfl rfl rfl rfl (Nat.zero_le _) (Nat.zero_le _) ?_
      show jx_W (jm_MD_hasMonths, _, _, _, _, _, _) _ 0 0 0 [some _] [] _
      refine jr_aload rfl rfl ?_
      refine jr_getR rfl rfl rfl rfl (Or.inl rfl) ?_
      refine jr_aload rfl rfl ?_
      refine jr_getI rfl rfl ?_
      refine jr_iald (len := 2) rfl rfl hw.1 (by omega) ?_
      refine jr_if_le rfl (fun m5MDhasMonths => ?_) (fun m5MDhasMonths => ?_)
      · refine jr_ic rfl ?_
        refine jr_zret rfl rfl rfl (Nat.zero_le _) (Nat.zero_le _) ?_
        refine jr_if_eq rfl (fun _ => ?_) (fun z => absurd (by decide) z)
        refine jr_ic rfl ?_
        refine jr_zret rfl rfl rfl (Nat.zero_le _) (Nat.zero_le _) ?_
        refine jr_if_ne rfl (fun z => absurd (by decide) z) (fun _ => ?_)
        refine jr_ic rfl ?_
        refine jr_iret rfl rfl (Nat.zero_le _) (Nat.zero_le _) ?_
        first
          | exact ⟨rfl, hRel0⟩
          | (exfalso; omega)
          | (exfalso; simp (disch := omega) only [Int32.lt_iff_toInt_lt, Int32.le_iff_toInt_le, ← Int32.toInt_inj, Int32.reduceToInt, nI_toInt] at c3JVcanBeAimedAt m5MDhasMonths; done)
          | (exfalso; simp (disch := omega) only [Int32.lt_iff_toInt_lt, Int32.le_iff_toInt_le, ← Int32.toInt_inj, Int32.reduceToInt, nI_toInt] at c3JVcanBeAimedAt m5MDhasMonths; omega)
      · refine jr_ic rfl ?_
        refine jr_goto rfl ?_
        refine jr_zret rfl rfl rfl (Nat.zero_le _) (Nat.zero_le _) ?_
        refine jr_if_eq rfl (fun z => absurd z (by decide)) (fun _ => ?_)
        refine jr_iload rfl rfl ?_
        refine jr_ic rfl ?_
        refine jr_ic rfl ?_
        refine jr_cs3 (mc' := 0) (ms' := 0) rfl jm_MD_isIn_n jm_MD_isIn_f rfl rfl rfl rfl rfl (Nat.zero_le _) (Nat.zero_le _) ?_
        show jx_W (jm_MD_isIn, _, _, _, _, _, _) _ 0 0 0 [some _, some _, some _] [] _
        refine jr_iload rfl rfl ?_
        refine jr_iload rfl rfl ?_
        refine jr_icmp_lt rfl (fun m2MDisIn => ?_) (fun m2MDisIn => ?_)
        · refine jr_ic rfl ?_
          refine jr_zret rfl rfl rfl (Nat.zero_le _) (Nat.zero_le _) ?_
          refine jr_if_ne rfl (fun z => absurd (by decide) z) (fun _ => ?_)
          refine jr_ic rfl ?_
          refine jr_zret rfl rfl rfl (Nat.zero_le _) (Nat.zero_le _) ?_
          refine jr_if_ne rfl (fun z => absurd (by decide) z) (fun _ => ?_)
          refine jr_ic rfl ?_
          refine jr_iret rfl rfl (Nat.zero_le _) (Nat.zero_le _) ?_
          first
            | exact ⟨rfl, hRel0⟩
            | (exfalso; omega)
            | (exfalso; simp (disch := omega) only [Int32.lt_iff_toInt_lt, Int32.le_iff_toInt_le, ← Int32.toInt_inj, Int32.reduceToInt, nI_toInt] at c3JVcanBeAimedAt m5MDhasMonths m2MDisIn; done)
            | (exfalso; simp (disch := omega) only [Int32.lt_iff_toInt_lt, Int32.le_iff_toInt_le, ← Int32.toInt_inj, Int32.reduceToInt, nI_toInt] at c3JVcanBeAimedAt m5MDhasMonths m2MDisIn; omega)
        · refine jr_iload rfl rfl ?_
          refine jr_iload rfl rfl ?_
          refine jr_icmp_gt rfl (fun m5MDisIn => ?_) (fun m5MDisIn => ?_)
          · refine jr_ic rfl ?_
            refine jr_zret rfl rfl rfl (Nat.zero_le _) (Nat.zero_le _) ?_
            refine jr_if_ne rfl (fun z => absurd (by decide) z) (fun _ => ?_)
            refine jr_ic rfl ?_
            refine jr_zret rfl rfl rfl (Nat.zero_le _) (Nat.zero_le _) ?_
            refine jr_if_ne rfl (fun z => absurd (by decide) z) (fun _ => ?_)
            refine jr_ic rfl ?_
            refine jr_iret rfl rfl (Nat.zero_le _) (Nat.zero_le _) ?_
            first
              | exact ⟨rfl, hRel0⟩
              | (exfalso; omega)
              | (exfalso; simp (disch := omega) only [Int32.lt_iff_toInt_lt, Int32.le_iff_toInt_le, ← Int32.toInt_inj, Int32.reduceToInt, nI_toInt] at c3JVcanBeAimedAt m5MDhasMonths m2MDisIn m5MDisIn; done)
              | (exfalso; simp (disch := omega) only [Int32.lt_iff_toInt_lt, Int32.le_iff_toInt_le, ← Int32.toInt_inj, Int32.reduceToInt, nI_toInt] at c3JVcanBeAimedAt m5MDhasMonths m2MDisIn m5MDisIn; omega)
          · refine jr_ic rfl ?_
            refine jr_goto rfl ?_
            refine jr_zret rfl rfl rfl (Nat.zero_le _) (Nat.zero_le _) ?_
            refine jr_if_ne rfl (fun _ => ?_) (fun z => absurd z (by decide))
            refine jr_aload rfl rfl ?_
            refine jr_cv0 (mc' := 0) (ms' := 0) rfl jm_MD_layVotes_n jm_MD_layVotes_f rfl rfl rfl rfl rfl rfl rfl (Nat.zero_le _) (Nat.zero_le _) ?_
            first
              | (exfalso; omega)
              | (exfalso; simp (disch := omega) only [Int32.lt_iff_toInt_lt, Int32.le_iff_toInt_le, ← Int32.toInt_inj, Int32.reduceToInt, nI_toInt] at c3JVcanBeAimedAt m5MDhasMonths m2MDisIn m5MDisIn; done)
              | (exfalso; simp (disch := omega) only [Int32.lt_iff_toInt_lt, Int32.le_iff_toInt_le, ← Int32.toInt_inj, Int32.reduceToInt, nI_toInt] at c3JVcanBeAimedAt m5MDhasMonths m2MDisIn m5MDisIn; omega)
  · have hn1 : 0 < jz_nm hm b := by
      rcases Nat.eq_zero_or_pos (jz_nm hm b) with e | e
      · rw [e] at hnm; exact absurd hnm.1 hmo
      · exact e
    show jx_W (jm_JV_least, d + 40, 0, 0, false, 0, _) _ 0 0 0 [some (jv_r 10 0), some (jv_i (nI i))] [] _
    refine jr_aload rfl rfl ?_
    refine jr_iload rfl rfl ?_
    refine jr_cv1 (mc' := 0) (ms' := 0) rfl jm_JV_canBeAimedAt_n jm_JV_canBeAimedAt_f rfl rfl rfl rfl rfl rfl rfl (Nat.zero_le _) (Nat.zero_le _) ?_
    show jx_W (jm_JV_canBeAimedAt, _, _, _, _, _, _) _ 0 0 0 [some _, some _] [] _
    refine jr_aload rfl rfl ?_
    refine jr_getM rfl rfl rfl rfl hto ?_
    refine jr_getI rfl rfl ?_
    refine jr_if_ne rfl (fun c3JVcanBeAimedAt => ?_) (fun c3JVcanBeAimedAt => ?_)
    · refine jr_aload rfl rfl ?_
      refine jr_getR rfl rfl rfl rfl (Or.inl rfl) ?_
      refine jr_aload rfl rfl ?_
      refine jr_getR rfl rfl rfl rfl (Or.inl rfl) ?_
      refine jr_cv1 (mc' := 0) (ms' := 0) rfl jm_Sway_begin_n jm_Sway_begin_f rfl rfl rfl rfl rfl rfl rfl (Nat.zero_le _) (Nat.zero_le _) ?_
      refine ev_Sway_begin hw hA hR hmo (fun S1 hS1 => ?_)
      refine jr_aload rfl rfl ?_
      refine jr_getR rfl rfl rfl rfl (Or.inl rfl) ?_
      refine jr_iload rfl rfl ?_
      refine jr_cv1 (mc' := 0) (ms' := 0) rfl jm_Poll_mayBe_n jm_Poll_mayBe_f rfl rfl rfl rfl rfl rfl rfl (Nat.zero_le _) (Nat.zero_le _) ?_
      refine ev_Poll_mayBe (l := i) (by omega) ?_
      rw [hS1.2.1 i (by omega), jw_mayb_if]
      refine jr_zret rfl rfl (by rcases jw_mayb_01 (h := hm) (b := b) (l := i) with e | e <;> rw [e] <;> rfl) (Nat.zero_le _) (Nat.zero_le _) ?_
      refine jr_if_eq rfl (fun c3 => ?_) (fun c3 => ?_)
      · refine jr_ic rfl ?_
        refine jr_iret rfl rfl (Nat.zero_le _) (Nat.zero_le _) ?_
        show jx_W (jm_MD_least, d + 40, 0, 0, false, 1, _) _ 0 0 0 [some _, some _, none, none] [] _
        refine jr_aload rfl rfl ?_
        refine jr_iload rfl rfl ?_
        refine jr_cv1 (mc' := 0) (ms' := 0) rfl jm_MD_canTurnTo_n jm_MD_canTurnTo_f rfl rfl rfl rfl rfl rfl rfl (Nat.zero_le _) (Nat.zero_le _) ?_
        refine eB_canT hw hmo (by omega) (fun S2 hS2 hM2 hV2 => ?_)
        refine jr_if_ne rfl (fun m3 => ?_) (fun m3 => ?_)
        · refine jr_ic rfl ?_
          refine jr_ist2 rfl rfl ?_
          refine jr_ic rfl ?_
          refine jr_ist3 rfl rfl ?_
          first
            | (exfalso; omega)
            | (exfalso; simp (disch := omega) only [Int32.lt_iff_toInt_lt, Int32.le_iff_toInt_le, ← Int32.toInt_inj, Int32.reduceToInt, nI_toInt] at c3JVcanBeAimedAt c3 m3; done)
            | (exfalso; simp (disch := omega) only [Int32.lt_iff_toInt_lt, Int32.le_iff_toInt_le, ← Int32.toInt_inj, Int32.reduceToInt, nI_toInt] at c3JVcanBeAimedAt c3 m3; omega)
        · refine jr_ic rfl ?_
          refine jr_iret rfl rfl (Nat.zero_le _) (Nat.zero_le _) ?_
          first
            | (have q := jz_Rel_p (S := S1) (k := 0 + 1) (S' := fun x => jh_I hm x 0) hRel0 (fun _ _ => rfl); rw [jS_self] at q; exact ⟨rfl, q⟩)
            | (have q := jz_Rel_p (S := S3) (k := 0 + 1) (S' := fun x => jh_I hm x 0) hRel0 (fun _ _ => rfl); rw [jS_self] at q; exact ⟨rfl, q⟩)
            | exact ⟨rfl, (jz_Rel_p hRel0 hS3)⟩
            | exact ⟨rfl, (jz_Rel_p hRel0 hS2)⟩
            | exact ⟨rfl, hRel0⟩
            | (exfalso; omega)
            | (exfalso; simp (disch := omega) only [Int32.lt_iff_toInt_lt, Int32.le_iff_toInt_le, ← Int32.toInt_inj, Int32.reduceToInt, nI_toInt] at c3JVcanBeAimedAt c3 m3; done)
            | (exfalso; simp (disch := omega) only [Int32.lt_iff_toInt_lt, Int32.le_iff_toInt_le, ← Int32.toInt_inj, Int32.reduceToInt, nI_toInt] at c3JVcanBeAimedAt c3 m3; omega)
      · refine jr_aload rfl rfl ?_
        refine jr_getR rfl rfl rfl rfl (Or.inl rfl) ?_
        refine jr_iload rfl rfl ?_
        refine jr_cv1 (mc' := 0) (ms' := 0) rfl jm_Sway_leastSet_n jm_Sway_leastSet_f rfl rfl rfl rfl rfl rfl rfl (Nat.zero_le _) (Nat.zero_le _) ?_
        show jx_W (jm_Sway_leastSet, _, _, _, _, _, _) _ 0 0 0 [some _, some _, none, none] [] _
        refine jr_ic rfl ?_
        refine jr_ist2 rfl rfl ?_
        refine jr_ic rfl ?_
        refine jr_ist3 rfl rfl ?_
        refine lp_leastSet 0 none hw hA hR hmo hS1 (by omega) (Nat.zero_le _) (fun q hq => by cases hq) (fun S4 => ?_)
        refine jr_goto rfl ?_
        refine jr_iret rfl rfl (Nat.zero_le _) (Nat.zero_le _) ?_
        show jx_W (jm_MD_least, d + 40, 0, 0, false, 1, _) _ 0 0 0 [some _, some _, none, none] [] _
        refine jr_aload rfl rfl ?_
        refine jr_iload rfl rfl ?_
        refine jr_cv1 (mc' := 0) (ms' := 0) rfl jm_MD_canTurnTo_n jm_MD_canTurnTo_f rfl rfl rfl rfl rfl rfl rfl (Nat.zero_le _) (Nat.zero_le _) ?_
        refine eB_canT hw hmo (by omega) (fun S2 hS2 hM2 hV2 => ?_)
        refine jr_if_ne rfl (fun m3 => ?_) (fun m3 => ?_)
        · refine jr_ic rfl ?_
          refine jr_ist2 rfl rfl ?_
          refine jr_ic rfl ?_
          refine jr_ist3 rfl rfl ?_
          refine lp_MD_least 0 none hw hS2 hmo (by omega) hM2 (fun p hp => (hV2 p hp).1) (Nat.zero_le _) (fun q hq => by cases hq) (fun S5 hS5 => ⟨rfl, jz_Rel_p hRel0 hS5⟩)
        · refine jr_ic rfl ?_
          refine jr_iret rfl rfl (Nat.zero_le _) (Nat.zero_le _) ?_
          first
            | exact absurd m3 c3
            | exact absurd c3 m3
    · refine jr_ic rfl ?_
      refine jr_zret rfl rfl rfl (Nat.zero_le _) (Nat.zero_le _) ?_
      refine jr_if_eq rfl (fun _ => ?_) (fun z => absurd (by decide) z)
      refine jr_ic rfl ?_
      refine jr_iret rfl rfl (Nat.zero_le _) (Nat.zero_le _) ?_
      show jx_W (jm_MD_least, d + 40, 0, 0, false, 1, _) _ 0 0 0 [some _, some _, none, none] [] _
      refine jr_aload rfl rfl ?_
      refine jr_iload rfl rfl ?_
      refine jr_cv1 (mc' := 0) (ms' := 0) rfl jm_MD_canTurnTo_n jm_MD_canTurnTo_f rfl rfl rfl rfl rfl rfl rfl (Nat.zero_le _) (Nat.zero_le _) ?_
      refine eB_canT hw hmo (by omega) (fun S2 hS2 hM2 hV2 => ?_)
      refine jr_if_ne rfl (fun m3 => ?_) (fun m3 => ?_)
      · refine jr_ic rfl ?_
        refine jr_ist2 rfl rfl ?_
        refine jr_ic rfl ?_
        refine jr_ist3 rfl rfl ?_
        first
          | (exfalso; omega)
          | (exfalso; simp (disch := omega) only [Int32.lt_iff_toInt_lt, Int32.le_iff_toInt_le, ← Int32.toInt_inj, Int32.reduceToInt, nI_toInt] at c3JVcanBeAimedAt m3; done)
          | (exfalso; simp (disch := omega) only [Int32.lt_iff_toInt_lt, Int32.le_iff_toInt_le, ← Int32.toInt_inj, Int32.reduceToInt, nI_toInt] at c3JVcanBeAimedAt m3; omega)
      · refine jr_ic rfl ?_
        refine jr_iret rfl rfl (Nat.zero_le _) (Nat.zero_le _) ?_
        first
          | (have q := jz_Rel_p (S := S1) (k := 0 + 1) (S' := fun x => jh_I hm x 0) hRel0 (fun _ _ => rfl); rw [jS_self] at q; exact ⟨rfl, q⟩)
          | (have q := jz_Rel_p (S := S3) (k := 0 + 1) (S' := fun x => jh_I hm x 0) hRel0 (fun _ _ => rfl); rw [jS_self] at q; exact ⟨rfl, q⟩)
          | exact ⟨rfl, (jz_Rel_p hRel0 hS3)⟩
          | exact ⟨rfl, (jz_Rel_p hRel0 hS2)⟩
          | exact ⟨rfl, hRel0⟩
          | (exfalso; omega)
          | (exfalso; simp (disch := omega) only [Int32.lt_iff_toInt_lt, Int32.le_iff_toInt_le, ← Int32.toInt_inj, Int32.reduceToInt, nI_toInt] at c3JVcanBeAimedAt m3; done)
          | (exfalso; simp (disch := omega) only [Int32.lt_iff_toInt_lt, Int32.le_iff_toInt_le, ← Int32.toInt_inj, Int32.reduceToInt, nI_toInt] at c3JVcanBeAimedAt m3; omega)
  · have hn1 : 0 < jz_nm hm b := by
      rcases Nat.eq_zero_or_pos (jz_nm hm b) with e | e
      · rw [e] at hnm; exact absurd hnm.1 hmo
      · exact e
    show jx_W (jm_JV_least, d + 40, 0, 0, false, 0, _) _ 0 0 0 [some (jv_r 10 0), some (jv_i x)] [] _
    refine jr_aload rfl rfl ?_
    refine jr_iload rfl rfl ?_
    refine jr_cv1 (mc' := 0) (ms' := 0) rfl jm_JV_canBeAimedAt_n jm_JV_canBeAimedAt_f rfl rfl rfl rfl rfl rfl rfl (Nat.zero_le _) (Nat.zero_le _) ?_
    show jx_W (jm_JV_canBeAimedAt, _, _, _, _, _, _) _ 0 0 0 [some _, some _] [] _
    refine jr_aload rfl rfl ?_
    refine jr_getM rfl rfl rfl rfl hto ?_
    refine jr_getI rfl rfl ?_
    refine jr_if_ne rfl (fun c3JVcanBeAimedAt => ?_) (fun c3JVcanBeAimedAt => ?_)
    · refine jr_aload rfl rfl ?_
      refine jr_getR rfl rfl rfl rfl (Or.inl rfl) ?_
      refine jr_aload rfl rfl ?_
      refine jr_getR rfl rfl rfl rfl (Or.inl rfl) ?_
      refine jr_cv1 (mc' := 0) (ms' := 0) rfl jm_Sway_begin_n jm_Sway_begin_f rfl rfl rfl rfl rfl rfl rfl (Nat.zero_le _) (Nat.zero_le _) ?_
      refine ev_Sway_begin hw hA hR hmo (fun S1 hS1 => ?_)
      refine jr_aload rfl rfl ?_
      refine jr_getR rfl rfl rfl rfl (Or.inl rfl) ?_
      refine jr_iload rfl rfl ?_
      refine jr_cv1 (mc' := 0) (ms' := 0) rfl jm_Poll_mayBe_n jm_Poll_mayBe_f rfl rfl rfl rfl rfl rfl rfl (Nat.zero_le _) (Nat.zero_le _) ?_
      show jx_W (jm_Poll_mayBe, _, _, _, _, _, _) _ 0 0 0 [some _, some _] [] _
      refine jr_iload rfl rfl ?_
      refine jr_cn1 (mc' := 0) (ms' := 0) rfl jm_JV_isLength_n jm_JV_isLength_f rfl rfl (by first | exact Or.inl ⟨rfl, rfl⟩ | exact Or.inr ⟨rfl, rfl⟩) rfl rfl rfl rfl (Nat.zero_le _) (Nat.zero_le _) ?_
      show jx_W (jm_JV_isLength, _, _, _, _, _, _) _ 0 0 0 [some _] [] _
      refine jr_iload rfl rfl ?_
      refine jr_if_lt rfl (fun c1JVisLength => ?_) (fun c1JVisLength => ?_)
      · refine jr_ic rfl ?_
        refine jr_zret rfl rfl rfl (Nat.zero_le _) (Nat.zero_le _) ?_
        refine jr_if_eq rfl (fun _ => ?_) (fun z => absurd (by decide) z)
        refine jr_ic rfl ?_
        refine jr_zret rfl rfl rfl (Nat.zero_le _) (Nat.zero_le _) ?_
        refine jr_zret rfl rfl rfl (Nat.zero_le _) (Nat.zero_le _) ?_
        refine jr_if_eq rfl (fun _ => ?_) (fun z => absurd (by decide) z)
        refine jr_ic rfl ?_
        refine jr_iret rfl rfl (Nat.zero_le _) (Nat.zero_le _) ?_
        show jx_W (jm_MD_least, d + 40, 0, 0, false, 1, _) _ 0 0 0 [some _, some _, none, none] [] _
        refine jr_aload rfl rfl ?_
        refine jr_iload rfl rfl ?_
        refine jr_cv1 (mc' := 0) (ms' := 0) rfl jm_MD_canTurnTo_n jm_MD_canTurnTo_f rfl rfl rfl rfl rfl rfl rfl (Nat.zero_le _) (Nat.zero_le _) ?_
        show jx_W (jm_MD_canTurnTo, _, _, _, _, _, _) _ 0 0 0 [some _, some _, none] [] _
        refine jr_aload rfl rfl ?_
        refine jr_cv0 (mc' := 0) (ms' := 0) rfl jm_MD_hasMonths_n jm_MD_hasMonths_f rfl rfl rfl rfl rfl rfl rfl (Nat.zero_le _) (Nat.zero_le _) ?_
        show jx_W (jm_MD_hasMonths, _, _, _, _, _, _) _ 0 0 0 [some _] [] _
        refine jr_aload rfl rfl ?_
        refine jr_getR rfl rfl rfl rfl (Or.inl rfl) ?_
        refine jr_aload rfl rfl ?_
        refine jr_getI rfl rfl ?_
        refine jr_iald (len := 2) rfl rfl hw.1 (by omega) ?_
        refine jr_if_le rfl (fun m5MDhasMonths => ?_) (fun m5MDhasMonths => ?_)
        · refine jr_ic rfl ?_
          refine jr_zret rfl rfl rfl (Nat.zero_le _) (Nat.zero_le _) ?_
          refine jr_if_eq rfl (fun _ => ?_) (fun z => absurd (by decide) z)
          refine jr_ic rfl ?_
          refine jr_zret rfl rfl rfl (Nat.zero_le _) (Nat.zero_le _) ?_
          refine jr_if_ne rfl (fun z => absurd (by decide) z) (fun _ => ?_)
          refine jr_ic rfl ?_
          refine jr_iret rfl rfl (Nat.zero_le _) (Nat.zero_le _) ?_
          first
            | (have q := jz_Rel_p (S := S1) (k := 0 + 1) (S' := fun x => jh_I hm x 0) hRel0 (fun _ _ => rfl); rw [jS_self] at q; exact ⟨rfl, q⟩)
            | (have q := jz_Rel_p (S := S3) (k := 0 + 1) (S' := fun x => jh_I hm x 0) hRel0 (fun _ _ => rfl); rw [jS_self] at q; exact ⟨rfl, q⟩)
            | exact ⟨rfl, (jz_Rel_p hRel0 hS3)⟩
            | exact ⟨rfl, (jz_Rel_p hRel0 hS2)⟩
            | exact ⟨rfl, hRel0⟩
            | (exfalso; omega)
            | (exfalso; simp (disch := omega) only [Int32.lt_iff_toInt_lt, Int32.le_iff_toInt_le, ← Int32.toInt_inj, Int32.reduceToInt, nI_toInt] at c3JVcanBeAimedAt c1JVisLength m5MDhasMonths; done)
            | (exfalso; simp (disch := omega) only [Int32.lt_iff_toInt_lt, Int32.le_iff_toInt_le, ← Int32.toInt_inj, Int32.reduceToInt, nI_toInt] at c3JVcanBeAimedAt c1JVisLength m5MDhasMonths; omega)
        · refine jr_ic rfl ?_
          refine jr_goto rfl ?_
          refine jr_zret rfl rfl rfl (Nat.zero_le _) (Nat.zero_le _) ?_
          refine jr_if_eq rfl (fun z => absurd z (by decide)) (fun _ => ?_)
          refine jr_iload rfl rfl ?_
          refine jr_ic rfl ?_
          refine jr_ic rfl ?_
          refine jr_cs3 (mc' := 0) (ms' := 0) rfl jm_MD_isIn_n jm_MD_isIn_f rfl rfl rfl rfl rfl (Nat.zero_le _) (Nat.zero_le _) ?_
          show jx_W (jm_MD_isIn, _, _, _, _, _, _) _ 0 0 0 [some _, some _, some _] [] _
          refine jr_iload rfl rfl ?_
          refine jr_iload rfl rfl ?_
          refine jr_icmp_lt rfl (fun m2MDisIn => ?_) (fun m2MDisIn => ?_)
          · refine jr_ic rfl ?_
            refine jr_zret rfl rfl rfl (Nat.zero_le _) (Nat.zero_le _) ?_
            refine jr_if_ne rfl (fun z => absurd (by decide) z) (fun _ => ?_)
            refine jr_ic rfl ?_
            refine jr_zret rfl rfl rfl (Nat.zero_le _) (Nat.zero_le _) ?_
            refine jr_if_ne rfl (fun z => absurd (by decide) z) (fun _ => ?_)
            refine jr_ic rfl ?_
            refine jr_iret rfl rfl (Nat.zero_le _) (Nat.zero_le _) ?_
            first
              | (have q := jz_Rel_p (S := S1) (k := 0 + 1) (S' := fun x => jh_I hm x 0) hRel0 (fun _ _ => rfl); rw [jS_self] at q; exact ⟨rfl, q⟩)
              | (have q := jz_Rel_p (S := S3) (k := 0 + 1) (S' := fun x => jh_I hm x 0) hRel0 (fun _ _ => rfl); rw [jS_self] at q; exact ⟨rfl, q⟩)
              | exact ⟨rfl, (jz_Rel_p hRel0 hS3)⟩
              | exact ⟨rfl, (jz_Rel_p hRel0 hS2)⟩
              | exact ⟨rfl, hRel0⟩
              | (exfalso; omega)
              | (exfalso; simp (disch := omega) only [Int32.lt_iff_toInt_lt, Int32.le_iff_toInt_le, ← Int32.toInt_inj, Int32.reduceToInt, nI_toInt] at c3JVcanBeAimedAt c1JVisLength m5MDhasMonths m2MDisIn; done)
              | (exfalso; simp (disch := omega) only [Int32.lt_iff_toInt_lt, Int32.le_iff_toInt_le, ← Int32.toInt_inj, Int32.reduceToInt, nI_toInt] at c3JVcanBeAimedAt c1JVisLength m5MDhasMonths m2MDisIn; omega)
          · refine jr_iload rfl rfl ?_
            refine jr_iload rfl rfl ?_
            refine jr_icmp_gt rfl (fun m5MDisIn => ?_) (fun m5MDisIn => ?_)
            · refine jr_ic rfl ?_
              refine jr_zret rfl rfl rfl (Nat.zero_le _) (Nat.zero_le _) ?_
              refine jr_if_ne rfl (fun z => absurd (by decide) z) (fun _ => ?_)
              refine jr_ic rfl ?_
              refine jr_zret rfl rfl rfl (Nat.zero_le _) (Nat.zero_le _) ?_
              refine jr_if_ne rfl (fun z => absurd (by decide) z) (fun _ => ?_)
              refine jr_ic rfl ?_
              refine jr_iret rfl rfl (Nat.zero_le _) (Nat.zero_le _) ?_
              first
                | (have q := jz_Rel_p (S := S1) (k := 0 + 1) (S' := fun x => jh_I hm x 0) hRel0 (fun _ _ => rfl); rw [jS_self] at q; exact ⟨rfl, q⟩)
                | (have q := jz_Rel_p (S := S3) (k := 0 + 1) (S' := fun x => jh_I hm x 0) hRel0 (fun _ _ => rfl); rw [jS_self] at q; exact ⟨rfl, q⟩)
                | exact ⟨rfl, (jz_Rel_p hRel0 hS3)⟩
                | exact ⟨rfl, (jz_Rel_p hRel0 hS2)⟩
                | exact ⟨rfl, hRel0⟩
                | (exfalso; omega)
                | (exfalso; simp (disch := omega) only [Int32.lt_iff_toInt_lt, Int32.le_iff_toInt_le, ← Int32.toInt_inj, Int32.reduceToInt, nI_toInt] at c3JVcanBeAimedAt c1JVisLength m5MDhasMonths m2MDisIn m5MDisIn; done)
                | (exfalso; simp (disch := omega) only [Int32.lt_iff_toInt_lt, Int32.le_iff_toInt_le, ← Int32.toInt_inj, Int32.reduceToInt, nI_toInt] at c3JVcanBeAimedAt c1JVisLength m5MDhasMonths m2MDisIn m5MDisIn; omega)
            · refine jr_ic rfl ?_
              refine jr_goto rfl ?_
              refine jr_zret rfl rfl rfl (Nat.zero_le _) (Nat.zero_le _) ?_
              refine jr_if_ne rfl (fun _ => ?_) (fun z => absurd z (by decide))
              refine jr_aload rfl rfl ?_
              refine jr_cv0 (mc' := 0) (ms' := 0) rfl jm_MD_layVotes_n jm_MD_layVotes_f rfl rfl rfl rfl rfl rfl rfl (Nat.zero_le _) (Nat.zero_le _) ?_
              first
                | (exfalso; omega)
                | (exfalso; simp (disch := omega) only [Int32.lt_iff_toInt_lt, Int32.le_iff_toInt_le, ← Int32.toInt_inj, Int32.reduceToInt, nI_toInt] at c3JVcanBeAimedAt c1JVisLength m5MDhasMonths m2MDisIn m5MDisIn; done)
                | (exfalso; simp (disch := omega) only [Int32.lt_iff_toInt_lt, Int32.le_iff_toInt_le, ← Int32.toInt_inj, Int32.reduceToInt, nI_toInt] at c3JVcanBeAimedAt c1JVisLength m5MDhasMonths m2MDisIn m5MDisIn; omega)
      · refine jr_iload rfl rfl ?_
        refine jr_ic rfl ?_
        refine jr_icmp_gt rfl (fun c4JVisLength => ?_) (fun c4JVisLength => ?_)
        · refine jr_ic rfl ?_
          refine jr_zret rfl rfl rfl (Nat.zero_le _) (Nat.zero_le _) ?_
          refine jr_if_eq rfl (fun _ => ?_) (fun z => absurd (by decide) z)
          refine jr_ic rfl ?_
          refine jr_zret rfl rfl rfl (Nat.zero_le _) (Nat.zero_le _) ?_
          refine jr_zret rfl rfl rfl (Nat.zero_le _) (Nat.zero_le _) ?_
          refine jr_if_eq rfl (fun _ => ?_) (fun z => absurd (by decide) z)
          refine jr_ic rfl ?_
          refine jr_iret rfl rfl (Nat.zero_le _) (Nat.zero_le _) ?_
          show jx_W (jm_MD_least, d + 40, 0, 0, false, 1, _) _ 0 0 0 [some _, some _, none, none] [] _
          refine jr_aload rfl rfl ?_
          refine jr_iload rfl rfl ?_
          refine jr_cv1 (mc' := 0) (ms' := 0) rfl jm_MD_canTurnTo_n jm_MD_canTurnTo_f rfl rfl rfl rfl rfl rfl rfl (Nat.zero_le _) (Nat.zero_le _) ?_
          show jx_W (jm_MD_canTurnTo, _, _, _, _, _, _) _ 0 0 0 [some _, some _, none] [] _
          refine jr_aload rfl rfl ?_
          refine jr_cv0 (mc' := 0) (ms' := 0) rfl jm_MD_hasMonths_n jm_MD_hasMonths_f rfl rfl rfl rfl rfl rfl rfl (Nat.zero_le _) (Nat.zero_le _) ?_
          show jx_W (jm_MD_hasMonths, _, _, _, _, _, _) _ 0 0 0 [some _] [] _
          refine jr_aload rfl rfl ?_
          refine jr_getR rfl rfl rfl rfl (Or.inl rfl) ?_
          refine jr_aload rfl rfl ?_
          refine jr_getI rfl rfl ?_
          refine jr_iald (len := 2) rfl rfl hw.1 (by omega) ?_
          refine jr_if_le rfl (fun m5MDhasMonths => ?_) (fun m5MDhasMonths => ?_)
          · refine jr_ic rfl ?_
            refine jr_zret rfl rfl rfl (Nat.zero_le _) (Nat.zero_le _) ?_
            refine jr_if_eq rfl (fun _ => ?_) (fun z => absurd (by decide) z)
            refine jr_ic rfl ?_
            refine jr_zret rfl rfl rfl (Nat.zero_le _) (Nat.zero_le _) ?_
            refine jr_if_ne rfl (fun z => absurd (by decide) z) (fun _ => ?_)
            refine jr_ic rfl ?_
            refine jr_iret rfl rfl (Nat.zero_le _) (Nat.zero_le _) ?_
            first
              | (have q := jz_Rel_p (S := S1) (k := 0 + 1) (S' := fun x => jh_I hm x 0) hRel0 (fun _ _ => rfl); rw [jS_self] at q; exact ⟨rfl, q⟩)
              | (have q := jz_Rel_p (S := S3) (k := 0 + 1) (S' := fun x => jh_I hm x 0) hRel0 (fun _ _ => rfl); rw [jS_self] at q; exact ⟨rfl, q⟩)
              | exact ⟨rfl, (jz_Rel_p hRel0 hS3)⟩
              | exact ⟨rfl, (jz_Rel_p hRel0 hS2)⟩
              | exact ⟨rfl, hRel0⟩
              | (exfalso; omega)
              | (exfalso; simp (disch := omega) only [Int32.lt_iff_toInt_lt, Int32.le_iff_toInt_le, ← Int32.toInt_inj, Int32.reduceToInt, nI_toInt] at c3JVcanBeAimedAt c1JVisLength c4JVisLength m5MDhasMonths; done)
              | (exfalso; simp (disch := omega) only [Int32.lt_iff_toInt_lt, Int32.le_iff_toInt_le, ← Int32.toInt_inj, Int32.reduceToInt, nI_toInt] at c3JVcanBeAimedAt c1JVisLength c4JVisLength m5MDhasMonths; omega)
          · refine jr_ic rfl ?_
            refine jr_goto rfl ?_
            refine jr_zret rfl rfl rfl (Nat.zero_le _) (Nat.zero_le _) ?_
            refine jr_if_eq rfl (fun z => absurd z (by decide)) (fun _ => ?_)
            refine jr_iload rfl rfl ?_
            refine jr_ic rfl ?_
            refine jr_ic rfl ?_
            refine jr_cs3 (mc' := 0) (ms' := 0) rfl jm_MD_isIn_n jm_MD_isIn_f rfl rfl rfl rfl rfl (Nat.zero_le _) (Nat.zero_le _) ?_
            show jx_W (jm_MD_isIn, _, _, _, _, _, _) _ 0 0 0 [some _, some _, some _] [] _
            refine jr_iload rfl rfl ?_
            refine jr_iload rfl rfl ?_
            refine jr_icmp_lt rfl (fun m2MDisIn => ?_) (fun m2MDisIn => ?_)
            · refine jr_ic rfl ?_
              refine jr_zret rfl rfl rfl (Nat.zero_le _) (Nat.zero_le _) ?_
              refine jr_if_ne rfl (fun z => absurd (by decide) z) (fun _ => ?_)
              refine jr_ic rfl ?_
              refine jr_zret rfl rfl rfl (Nat.zero_le _) (Nat.zero_le _) ?_
              refine jr_if_ne rfl (fun z => absurd (by decide) z) (fun _ => ?_)
              refine jr_ic rfl ?_
              refine jr_iret rfl rfl (Nat.zero_le _) (Nat.zero_le _) ?_
              first
                | (have q := jz_Rel_p (S := S1) (k := 0 + 1) (S' := fun x => jh_I hm x 0) hRel0 (fun _ _ => rfl); rw [jS_self] at q; exact ⟨rfl, q⟩)
                | (have q := jz_Rel_p (S := S3) (k := 0 + 1) (S' := fun x => jh_I hm x 0) hRel0 (fun _ _ => rfl); rw [jS_self] at q; exact ⟨rfl, q⟩)
                | exact ⟨rfl, (jz_Rel_p hRel0 hS3)⟩
                | exact ⟨rfl, (jz_Rel_p hRel0 hS2)⟩
                | exact ⟨rfl, hRel0⟩
                | (exfalso; omega)
                | (exfalso; simp (disch := omega) only [Int32.lt_iff_toInt_lt, Int32.le_iff_toInt_le, ← Int32.toInt_inj, Int32.reduceToInt, nI_toInt] at c3JVcanBeAimedAt c1JVisLength c4JVisLength m5MDhasMonths m2MDisIn; done)
                | (exfalso; simp (disch := omega) only [Int32.lt_iff_toInt_lt, Int32.le_iff_toInt_le, ← Int32.toInt_inj, Int32.reduceToInt, nI_toInt] at c3JVcanBeAimedAt c1JVisLength c4JVisLength m5MDhasMonths m2MDisIn; omega)
            · refine jr_iload rfl rfl ?_
              refine jr_iload rfl rfl ?_
              refine jr_icmp_gt rfl (fun m5MDisIn => ?_) (fun m5MDisIn => ?_)
              · refine jr_ic rfl ?_
                refine jr_zret rfl rfl rfl (Nat.zero_le _) (Nat.zero_le _) ?_
                refine jr_if_ne rfl (fun z => absurd (by decide) z) (fun _ => ?_)
                refine jr_ic rfl ?_
                refine jr_zret rfl rfl rfl (Nat.zero_le _) (Nat.zero_le _) ?_
                refine jr_if_ne rfl (fun z => absurd (by decide) z) (fun _ => ?_)
                refine jr_ic rfl ?_
                refine jr_iret rfl rfl (Nat.zero_le _) (Nat.zero_le _) ?_
                first
                  | (have q := jz_Rel_p (S := S1) (k := 0 + 1) (S' := fun x => jh_I hm x 0) hRel0 (fun _ _ => rfl); rw [jS_self] at q; exact ⟨rfl, q⟩)
                  | (have q := jz_Rel_p (S := S3) (k := 0 + 1) (S' := fun x => jh_I hm x 0) hRel0 (fun _ _ => rfl); rw [jS_self] at q; exact ⟨rfl, q⟩)
                  | exact ⟨rfl, (jz_Rel_p hRel0 hS3)⟩
                  | exact ⟨rfl, (jz_Rel_p hRel0 hS2)⟩
                  | exact ⟨rfl, hRel0⟩
                  | (exfalso; omega)
                  | (exfalso; simp (disch := omega) only [Int32.lt_iff_toInt_lt, Int32.le_iff_toInt_le, ← Int32.toInt_inj, Int32.reduceToInt, nI_toInt] at c3JVcanBeAimedAt c1JVisLength c4JVisLength m5MDhasMonths m2MDisIn m5MDisIn; done)
                  | (exfalso; simp (disch := omega) only [Int32.lt_iff_toInt_lt, Int32.le_iff_toInt_le, ← Int32.toInt_inj, Int32.reduceToInt, nI_toInt] at c3JVcanBeAimedAt c1JVisLength c4JVisLength m5MDhasMonths m2MDisIn m5MDisIn; omega)
              · refine jr_ic rfl ?_
                refine jr_goto rfl ?_
                refine jr_zret rfl rfl rfl (Nat.zero_le _) (Nat.zero_le _) ?_
                refine jr_if_ne rfl (fun _ => ?_) (fun z => absurd z (by decide))
                refine jr_aload rfl rfl ?_
                refine jr_cv0 (mc' := 0) (ms' := 0) rfl jm_MD_layVotes_n jm_MD_layVotes_f rfl rfl rfl rfl rfl rfl rfl (Nat.zero_le _) (Nat.zero_le _) ?_
                first
                  | (exfalso; omega)
                  | (exfalso; simp (disch := omega) only [Int32.lt_iff_toInt_lt, Int32.le_iff_toInt_le, ← Int32.toInt_inj, Int32.reduceToInt, nI_toInt] at c3JVcanBeAimedAt c1JVisLength c4JVisLength m5MDhasMonths m2MDisIn m5MDisIn; done)
                  | (exfalso; simp (disch := omega) only [Int32.lt_iff_toInt_lt, Int32.le_iff_toInt_le, ← Int32.toInt_inj, Int32.reduceToInt, nI_toInt] at c3JVcanBeAimedAt c1JVisLength c4JVisLength m5MDhasMonths m2MDisIn m5MDisIn; omega)
        · refine jr_ic rfl ?_
          refine jr_goto rfl ?_
          refine jr_zret rfl rfl rfl (Nat.zero_le _) (Nat.zero_le _) ?_
          refine jr_if_eq rfl (fun z => absurd z (by decide)) (fun _ => ?_)
          refine jr_aload rfl rfl ?_
          refine jr_getI rfl rfl ?_
          refine jr_iload rfl rfl ?_
          refine jr_iushr rfl ?_
          refine jr_ic rfl ?_
          refine jr_iand rfl ?_
          refine jr_if_eq rfl (fun c9PollmayBe => ?_) (fun c9PollmayBe => ?_)
          · refine jr_ic rfl ?_
            refine jr_zret rfl rfl rfl (Nat.zero_le _) (Nat.zero_le _) ?_
            refine jr_zret rfl rfl rfl (Nat.zero_le _) (Nat.zero_le _) ?_
            refine jr_if_eq rfl (fun _ => ?_) (fun z => absurd (by decide) z)
            refine jr_ic rfl ?_
            refine jr_iret rfl rfl (Nat.zero_le _) (Nat.zero_le _) ?_
            show jx_W (jm_MD_least, d + 40, 0, 0, false, 1, _) _ 0 0 0 [some _, some _, none, none] [] _
            refine jr_aload rfl rfl ?_
            refine jr_iload rfl rfl ?_
            refine jr_cv1 (mc' := 0) (ms' := 0) rfl jm_MD_canTurnTo_n jm_MD_canTurnTo_f rfl rfl rfl rfl rfl rfl rfl (Nat.zero_le _) (Nat.zero_le _) ?_
            show jx_W (jm_MD_canTurnTo, _, _, _, _, _, _) _ 0 0 0 [some _, some _, none] [] _
            refine jr_aload rfl rfl ?_
            refine jr_cv0 (mc' := 0) (ms' := 0) rfl jm_MD_hasMonths_n jm_MD_hasMonths_f rfl rfl rfl rfl rfl rfl rfl (Nat.zero_le _) (Nat.zero_le _) ?_
            show jx_W (jm_MD_hasMonths, _, _, _, _, _, _) _ 0 0 0 [some _] [] _
            refine jr_aload rfl rfl ?_
            refine jr_getR rfl rfl rfl rfl (Or.inl rfl) ?_
            refine jr_aload rfl rfl ?_
            refine jr_getI rfl rfl ?_
            refine jr_iald (len := 2) rfl rfl hw.1 (by omega) ?_
            refine jr_if_le rfl (fun m5MDhasMonths => ?_) (fun m5MDhasMonths => ?_)
            · refine jr_ic rfl ?_
              refine jr_zret rfl rfl rfl (Nat.zero_le _) (Nat.zero_le _) ?_
              refine jr_if_eq rfl (fun _ => ?_) (fun z => absurd (by decide) z)
              refine jr_ic rfl ?_
              refine jr_zret rfl rfl rfl (Nat.zero_le _) (Nat.zero_le _) ?_
              refine jr_if_ne rfl (fun z => absurd (by decide) z) (fun _ => ?_)
              refine jr_ic rfl ?_
              refine jr_iret rfl rfl (Nat.zero_le _) (Nat.zero_le _) ?_
              first
                | (have q := jz_Rel_p (S := S1) (k := 0 + 1) (S' := fun x => jh_I hm x 0) hRel0 (fun _ _ => rfl); rw [jS_self] at q; exact ⟨rfl, q⟩)
                | (have q := jz_Rel_p (S := S3) (k := 0 + 1) (S' := fun x => jh_I hm x 0) hRel0 (fun _ _ => rfl); rw [jS_self] at q; exact ⟨rfl, q⟩)
                | exact ⟨rfl, (jz_Rel_p hRel0 hS3)⟩
                | exact ⟨rfl, (jz_Rel_p hRel0 hS2)⟩
                | exact ⟨rfl, hRel0⟩
                | (exfalso; omega)
                | (exfalso; simp (disch := omega) only [Int32.lt_iff_toInt_lt, Int32.le_iff_toInt_le, ← Int32.toInt_inj, Int32.reduceToInt, nI_toInt] at c3JVcanBeAimedAt c1JVisLength c4JVisLength c9PollmayBe m5MDhasMonths; done)
                | (exfalso; simp (disch := omega) only [Int32.lt_iff_toInt_lt, Int32.le_iff_toInt_le, ← Int32.toInt_inj, Int32.reduceToInt, nI_toInt] at c3JVcanBeAimedAt c1JVisLength c4JVisLength c9PollmayBe m5MDhasMonths; omega)
            · refine jr_ic rfl ?_
              refine jr_goto rfl ?_
              refine jr_zret rfl rfl rfl (Nat.zero_le _) (Nat.zero_le _) ?_
              refine jr_if_eq rfl (fun z => absurd z (by decide)) (fun _ => ?_)
              refine jr_iload rfl rfl ?_
              refine jr_ic rfl ?_
              refine jr_ic rfl ?_
              refine jr_cs3 (mc' := 0) (ms' := 0) rfl jm_MD_isIn_n jm_MD_isIn_f rfl rfl rfl rfl rfl (Nat.zero_le _) (Nat.zero_le _) ?_
              show jx_W (jm_MD_isIn, _, _, _, _, _, _) _ 0 0 0 [some _, some _, some _] [] _
              refine jr_iload rfl rfl ?_
              refine jr_iload rfl rfl ?_
              refine jr_icmp_lt rfl (fun m2MDisIn => ?_) (fun m2MDisIn => ?_)
              · refine jr_ic rfl ?_
                refine jr_zret rfl rfl rfl (Nat.zero_le _) (Nat.zero_le _) ?_
                refine jr_if_ne rfl (fun z => absurd (by decide) z) (fun _ => ?_)
                refine jr_ic rfl ?_
                refine jr_zret rfl rfl rfl (Nat.zero_le _) (Nat.zero_le _) ?_
                refine jr_if_ne rfl (fun z => absurd (by decide) z) (fun _ => ?_)
                refine jr_ic rfl ?_
                refine jr_iret rfl rfl (Nat.zero_le _) (Nat.zero_le _) ?_
                first
                  | (have q := jz_Rel_p (S := S1) (k := 0 + 1) (S' := fun x => jh_I hm x 0) hRel0 (fun _ _ => rfl); rw [jS_self] at q; exact ⟨rfl, q⟩)
                  | (have q := jz_Rel_p (S := S3) (k := 0 + 1) (S' := fun x => jh_I hm x 0) hRel0 (fun _ _ => rfl); rw [jS_self] at q; exact ⟨rfl, q⟩)
                  | exact ⟨rfl, (jz_Rel_p hRel0 hS3)⟩
                  | exact ⟨rfl, (jz_Rel_p hRel0 hS2)⟩
                  | exact ⟨rfl, hRel0⟩
                  | (exfalso; omega)
                  | (exfalso; simp (disch := omega) only [Int32.lt_iff_toInt_lt, Int32.le_iff_toInt_le, ← Int32.toInt_inj, Int32.reduceToInt, nI_toInt] at c3JVcanBeAimedAt c1JVisLength c4JVisLength c9PollmayBe m5MDhasMonths m2MDisIn; done)
                  | (exfalso; simp (disch := omega) only [Int32.lt_iff_toInt_lt, Int32.le_iff_toInt_le, ← Int32.toInt_inj, Int32.reduceToInt, nI_toInt] at c3JVcanBeAimedAt c1JVisLength c4JVisLength c9PollmayBe m5MDhasMonths m2MDisIn; omega)
              · refine jr_iload rfl rfl ?_
                refine jr_iload rfl rfl ?_
                refine jr_icmp_gt rfl (fun m5MDisIn => ?_) (fun m5MDisIn => ?_)
                · refine jr_ic rfl ?_
                  refine jr_zret rfl rfl rfl (Nat.zero_le _) (Nat.zero_le _) ?_
                  refine jr_if_ne rfl (fun z => absurd (by decide) z) (fun _ => ?_)
                  refine jr_ic rfl ?_
                  refine jr_zret rfl rfl rfl (Nat.zero_le _) (Nat.zero_le _) ?_
                  refine jr_if_ne rfl (fun z => absurd (by decide) z) (fun _ => ?_)
                  refine jr_ic rfl ?_
                  refine jr_iret rfl rfl (Nat.zero_le _) (Nat.zero_le _) ?_
                  first
                    | (have q := jz_Rel_p (S := S1) (k := 0 + 1) (S' := fun x => jh_I hm x 0) hRel0 (fun _ _ => rfl); rw [jS_self] at q; exact ⟨rfl, q⟩)
                    | (have q := jz_Rel_p (S := S3) (k := 0 + 1) (S' := fun x => jh_I hm x 0) hRel0 (fun _ _ => rfl); rw [jS_self] at q; exact ⟨rfl, q⟩)
                    | exact ⟨rfl, (jz_Rel_p hRel0 hS3)⟩
                    | exact ⟨rfl, (jz_Rel_p hRel0 hS2)⟩
                    | exact ⟨rfl, hRel0⟩
                    | (exfalso; omega)
                    | (exfalso; simp (disch := omega) only [Int32.lt_iff_toInt_lt, Int32.le_iff_toInt_le, ← Int32.toInt_inj, Int32.reduceToInt, nI_toInt] at c3JVcanBeAimedAt c1JVisLength c4JVisLength c9PollmayBe m5MDhasMonths m2MDisIn m5MDisIn; done)
                    | (exfalso; simp (disch := omega) only [Int32.lt_iff_toInt_lt, Int32.le_iff_toInt_le, ← Int32.toInt_inj, Int32.reduceToInt, nI_toInt] at c3JVcanBeAimedAt c1JVisLength c4JVisLength c9PollmayBe m5MDhasMonths m2MDisIn m5MDisIn; omega)
                · refine jr_ic rfl ?_
                  refine jr_goto rfl ?_
                  refine jr_zret rfl rfl rfl (Nat.zero_le _) (Nat.zero_le _) ?_
                  refine jr_if_ne rfl (fun _ => ?_) (fun z => absurd z (by decide))
                  refine jr_aload rfl rfl ?_
                  refine jr_cv0 (mc' := 0) (ms' := 0) rfl jm_MD_layVotes_n jm_MD_layVotes_f rfl rfl rfl rfl rfl rfl rfl (Nat.zero_le _) (Nat.zero_le _) ?_
                  first
                    | (exfalso; omega)
                    | (exfalso; simp (disch := omega) only [Int32.lt_iff_toInt_lt, Int32.le_iff_toInt_le, ← Int32.toInt_inj, Int32.reduceToInt, nI_toInt] at c3JVcanBeAimedAt c1JVisLength c4JVisLength c9PollmayBe m5MDhasMonths m2MDisIn m5MDisIn; done)
                    | (exfalso; simp (disch := omega) only [Int32.lt_iff_toInt_lt, Int32.le_iff_toInt_le, ← Int32.toInt_inj, Int32.reduceToInt, nI_toInt] at c3JVcanBeAimedAt c1JVisLength c4JVisLength c9PollmayBe m5MDhasMonths m2MDisIn m5MDisIn; omega)
          · refine jr_ic rfl ?_
            refine jr_goto rfl ?_
            refine jr_zret rfl rfl rfl (Nat.zero_le _) (Nat.zero_le _) ?_
            refine jr_zret rfl rfl rfl (Nat.zero_le _) (Nat.zero_le _) ?_
            refine jr_if_eq rfl (fun z => absurd z (by decide)) (fun _ => ?_)
            refine jr_aload rfl rfl ?_
            refine jr_getR rfl rfl rfl rfl (Or.inl rfl) ?_
            refine jr_iload rfl rfl ?_
            refine jr_cv1 (mc' := 0) (ms' := 0) rfl jm_Sway_leastSet_n jm_Sway_leastSet_f rfl rfl rfl rfl rfl rfl rfl (Nat.zero_le _) (Nat.zero_le _) ?_
            first
              | (exfalso; omega)
              | (exfalso; simp (disch := omega) only [Int32.lt_iff_toInt_lt, Int32.le_iff_toInt_le, ← Int32.toInt_inj, Int32.reduceToInt, nI_toInt] at c3JVcanBeAimedAt c1JVisLength c4JVisLength c9PollmayBe; done)
              | (exfalso; simp (disch := omega) only [Int32.lt_iff_toInt_lt, Int32.le_iff_toInt_le, ← Int32.toInt_inj, Int32.reduceToInt, nI_toInt] at c3JVcanBeAimedAt c1JVisLength c4JVisLength c9PollmayBe; omega)
    · refine jr_ic rfl ?_
      refine jr_zret rfl rfl rfl (Nat.zero_le _) (Nat.zero_le _) ?_
      refine jr_if_eq rfl (fun _ => ?_) (fun z => absurd (by decide) z)
      refine jr_ic rfl ?_
      refine jr_iret rfl rfl (Nat.zero_le _) (Nat.zero_le _) ?_
      show jx_W (jm_MD_least, d + 40, 0, 0, false, 1, _) _ 0 0 0 [some _, some _, none, none] [] _
      refine jr_aload rfl rfl ?_
      refine jr_iload rfl rfl ?_
      refine jr_cv1 (mc' := 0) (ms' := 0) rfl jm_MD_canTurnTo_n jm_MD_canTurnTo_f rfl rfl rfl rfl rfl rfl rfl (Nat.zero_le _) (Nat.zero_le _) ?_
      show jx_W (jm_MD_canTurnTo, _, _, _, _, _, _) _ 0 0 0 [some _, some _, none] [] _
      refine jr_aload rfl rfl ?_
      refine jr_cv0 (mc' := 0) (ms' := 0) rfl jm_MD_hasMonths_n jm_MD_hasMonths_f rfl rfl rfl rfl rfl rfl rfl (Nat.zero_le _) (Nat.zero_le _) ?_
      show jx_W (jm_MD_hasMonths, _, _, _, _, _, _) _ 0 0 0 [some _] [] _
      refine jr_aload rfl rfl ?_
      refine jr_getR rfl rfl rfl rfl (Or.inl rfl) ?_
      refine jr_aload rfl rfl ?_
      refine jr_getI rfl rfl ?_
      refine jr_iald (len := 2) rfl rfl hw.1 (by omega) ?_
      refine jr_if_le rfl (fun m5MDhasMonths => ?_) (fun m5MDhasMonths => ?_)
      · refine jr_ic rfl ?_
        refine jr_zret rfl rfl rfl (Nat.zero_le _) (Nat.zero_le _) ?_
        refine jr_if_eq rfl (fun _ => ?_) (fun z => absurd (by decide) z)
        refine jr_ic rfl ?_
        refine jr_zret rfl rfl rfl (Nat.zero_le _) (Nat.zero_le _) ?_
        refine jr_if_ne rfl (fun z => absurd (by decide) z) (fun _ => ?_)
        refine jr_ic rfl ?_
        refine jr_iret rfl rfl (Nat.zero_le _) (Nat.zero_le _) ?_
        first
          | (have q := jz_Rel_p (S := S1) (k := 0 + 1) (S' := fun x => jh_I hm x 0) hRel0 (fun _ _ => rfl); rw [jS_self] at q; exact ⟨rfl, q⟩)
          | (have q := jz_Rel_p (S := S3) (k := 0 + 1) (S' := fun x => jh_I hm x 0) hRel0 (fun _ _ => rfl); rw [jS_self] at q; exact ⟨rfl, q⟩)
          | exact ⟨rfl, (jz_Rel_p hRel0 hS3)⟩
          | exact ⟨rfl, (jz_Rel_p hRel0 hS2)⟩
          | exact ⟨rfl, hRel0⟩
          | (exfalso; omega)
          | (exfalso; simp (disch := omega) only [Int32.lt_iff_toInt_lt, Int32.le_iff_toInt_le, ← Int32.toInt_inj, Int32.reduceToInt, nI_toInt] at c3JVcanBeAimedAt m5MDhasMonths; done)
          | (exfalso; simp (disch := omega) only [Int32.lt_iff_toInt_lt, Int32.le_iff_toInt_le, ← Int32.toInt_inj, Int32.reduceToInt, nI_toInt] at c3JVcanBeAimedAt m5MDhasMonths; omega)
      · refine jr_ic rfl ?_
        refine jr_goto rfl ?_
        refine jr_zret rfl rfl rfl (Nat.zero_le _) (Nat.zero_le _) ?_
        refine jr_if_eq rfl (fun z => absurd z (by decide)) (fun _ => ?_)
        refine jr_iload rfl rfl ?_
        refine jr_ic rfl ?_
        refine jr_ic rfl ?_
        refine jr_cs3 (mc' := 0) (ms' := 0) rfl jm_MD_isIn_n jm_MD_isIn_f rfl rfl rfl rfl rfl (Nat.zero_le _) (Nat.zero_le _) ?_
        show jx_W (jm_MD_isIn, _, _, _, _, _, _) _ 0 0 0 [some _, some _, some _] [] _
        refine jr_iload rfl rfl ?_
        refine jr_iload rfl rfl ?_
        refine jr_icmp_lt rfl (fun m2MDisIn => ?_) (fun m2MDisIn => ?_)
        · refine jr_ic rfl ?_
          refine jr_zret rfl rfl rfl (Nat.zero_le _) (Nat.zero_le _) ?_
          refine jr_if_ne rfl (fun z => absurd (by decide) z) (fun _ => ?_)
          refine jr_ic rfl ?_
          refine jr_zret rfl rfl rfl (Nat.zero_le _) (Nat.zero_le _) ?_
          refine jr_if_ne rfl (fun z => absurd (by decide) z) (fun _ => ?_)
          refine jr_ic rfl ?_
          refine jr_iret rfl rfl (Nat.zero_le _) (Nat.zero_le _) ?_
          first
            | (have q := jz_Rel_p (S := S1) (k := 0 + 1) (S' := fun x => jh_I hm x 0) hRel0 (fun _ _ => rfl); rw [jS_self] at q; exact ⟨rfl, q⟩)
            | (have q := jz_Rel_p (S := S3) (k := 0 + 1) (S' := fun x => jh_I hm x 0) hRel0 (fun _ _ => rfl); rw [jS_self] at q; exact ⟨rfl, q⟩)
            | exact ⟨rfl, (jz_Rel_p hRel0 hS3)⟩
            | exact ⟨rfl, (jz_Rel_p hRel0 hS2)⟩
            | exact ⟨rfl, hRel0⟩
            | (exfalso; omega)
            | (exfalso; simp (disch := omega) only [Int32.lt_iff_toInt_lt, Int32.le_iff_toInt_le, ← Int32.toInt_inj, Int32.reduceToInt, nI_toInt] at c3JVcanBeAimedAt m5MDhasMonths m2MDisIn; done)
            | (exfalso; simp (disch := omega) only [Int32.lt_iff_toInt_lt, Int32.le_iff_toInt_le, ← Int32.toInt_inj, Int32.reduceToInt, nI_toInt] at c3JVcanBeAimedAt m5MDhasMonths m2MDisIn; omega)
        · refine jr_iload rfl rfl ?_
          refine jr_iload rfl rfl ?_
          refine jr_icmp_gt rfl (fun m5MDisIn => ?_) (fun m5MDisIn => ?_)
          · refine jr_ic rfl ?_
            refine jr_zret rfl rfl rfl (Nat.zero_le _) (Nat.zero_le _) ?_
            refine jr_if_ne rfl (fun z => absurd (by decide) z) (fun _ => ?_)
            refine jr_ic rfl ?_
            refine jr_zret rfl rfl rfl (Nat.zero_le _) (Nat.zero_le _) ?_
            refine jr_if_ne rfl (fun z => absurd (by decide) z) (fun _ => ?_)
            refine jr_ic rfl ?_
            refine jr_iret rfl rfl (Nat.zero_le _) (Nat.zero_le _) ?_
            first
              | (have q := jz_Rel_p (S := S1) (k := 0 + 1) (S' := fun x => jh_I hm x 0) hRel0 (fun _ _ => rfl); rw [jS_self] at q; exact ⟨rfl, q⟩)
              | (have q := jz_Rel_p (S := S3) (k := 0 + 1) (S' := fun x => jh_I hm x 0) hRel0 (fun _ _ => rfl); rw [jS_self] at q; exact ⟨rfl, q⟩)
              | exact ⟨rfl, (jz_Rel_p hRel0 hS3)⟩
              | exact ⟨rfl, (jz_Rel_p hRel0 hS2)⟩
              | exact ⟨rfl, hRel0⟩
              | (exfalso; omega)
              | (exfalso; simp (disch := omega) only [Int32.lt_iff_toInt_lt, Int32.le_iff_toInt_le, ← Int32.toInt_inj, Int32.reduceToInt, nI_toInt] at c3JVcanBeAimedAt m5MDhasMonths m2MDisIn m5MDisIn; done)
              | (exfalso; simp (disch := omega) only [Int32.lt_iff_toInt_lt, Int32.le_iff_toInt_le, ← Int32.toInt_inj, Int32.reduceToInt, nI_toInt] at c3JVcanBeAimedAt m5MDhasMonths m2MDisIn m5MDisIn; omega)
          · refine jr_ic rfl ?_
            refine jr_goto rfl ?_
            refine jr_zret rfl rfl rfl (Nat.zero_le _) (Nat.zero_le _) ?_
            refine jr_if_ne rfl (fun _ => ?_) (fun z => absurd z (by decide))
            refine jr_aload rfl rfl ?_
            refine jr_cv0 (mc' := 0) (ms' := 0) rfl jm_MD_layVotes_n jm_MD_layVotes_f rfl rfl rfl rfl rfl rfl rfl (Nat.zero_le _) (Nat.zero_le _) ?_
            first
              | (exfalso; omega)
              | (exfalso; simp (disch := omega) only [Int32.lt_iff_toInt_lt, Int32.le_iff_toInt_le, ← Int32.toInt_inj, Int32.reduceToInt, nI_toInt] at c3JVcanBeAimedAt m5MDhasMonths m2MDisIn m5MDisIn; done)
              | (exfalso; simp (disch := omega) only [Int32.lt_iff_toInt_lt, Int32.le_iff_toInt_le, ← Int32.toInt_inj, Int32.reduceToInt, nI_toInt] at c3JVcanBeAimedAt m5MDhasMonths m2MDisIn m5MDisIn; omega)

