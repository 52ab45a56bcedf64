def jw_stv (V : Nat → Nat) (p l q : Nat) : Nat := if q = p then l else V q
theorem jw_stv_lt {V : Nat → Nat} {p l : Nat} (hV : ∀ q, V q < 32) (hl : l < 32) (q : Nat) : jw_stv V p l q < 32 := by
  unfold jw_stv
  split
  · exact hl
  · exact hV q
theorem jw_stv_e (V : Nat → Nat) (p l : Nat) : jw_stv V p l p = l := if_pos rfl
theorem jw_stv_n (V : Nat → Nat) {p l q : Nat} (h : q ≠ p) : jw_stv V p l q = V q := if_neg h
def jw_wb (hm : jx_H) (b : Nat) (V : Nat → Nat) (p l : Nat) : Int32 := jw_worth hm b p (jw_count (jw_mayb hm b) (jC hm b 15 0) (jz_np hm b) (jw_stv V p l) (fun p => jA hm (7 + p))) (jz_nd hm b)
def jw_bv (hm : jx_H) (b : Nat) (V : Nat → Nat) (p : Nat) : Nat → Nat → Nat → Nat
  | 0, _, o => o
  | n + 1, l, o => jw_bv hm b V p n (l + 1) (if jw_mayb hm b l = 0 then o else if jw_wb hm b V p l ≤ jw_wb hm b V p o then o else l)
def jw_bp (hm : jx_H) (b : Nat) (V : Nat → Nat) (p : Nat) : Nat := jw_bv hm b V p 32 0 (V p)
theorem jw_bv_lt {hm : jx_H} {b : Nat} {V : Nat → Nat} {p : Nat} : ∀ n l o, l + n ≤ 32 → o < 32 → jw_bv hm b V p n l o < 32
  | 0, _, _, _, ho => ho
  | n + 1, l, o, hl, ho => by
    refine jw_bv_lt n (l + 1) _ (by omega) ?_
    split
    · exact ho
    · split
      · exact ho
      · omega
theorem jw_bp_lt {hm : jx_H} {b : Nat} {V : Nat → Nat} {p : Nat} (hV : ∀ q, V q < 32) : jw_bp hm b V p < 32 := jw_bv_lt 32 0 _ (by omega) (hV p)
def jw_tn (hm : jx_H) (b : Nat) : Nat → Nat → (Nat → Nat) → (Nat → Nat)
  | 0, _, V => V
  | n + 1, p, V => jw_tn hm b n (p + 1) (jw_stv V p (jw_bp hm b V p))
theorem jw_tn_lt {hm : jx_H} {b : Nat} : ∀ n p V, (∀ q, V q < 32) → ∀ q, jw_tn hm b n p V q < 32
  | 0, _, _, hV, q => hV q
  | n + 1, p, V, hV, q => jw_tn_lt n (p + 1) _ (fun q => jw_stv_lt hV (jw_bp_lt hV) q) q
def jw_tc (hm : jx_H) (b : Nat) : Nat → Nat → (Nat → Nat) → Bool → Bool
  | 0, _, _, c => c
  | n + 1, p, V, c => jw_tc hm b n (p + 1) (jw_stv V p (jw_bp hm b V p)) (c || decide (¬ jw_bp hm b V p = V p))
def jw_bi (c : Bool) : Int32 := if c = true then 1 else 0
def jw_rs (hm : jx_H) (b : Nat) : Nat → Nat → (Nat → Nat) → Option (Nat × (Nat → Nat))
  | 0, _, _ => none
  | n + 1, t, V => if jw_tc hm b (jz_np hm b) 0 V false = false then some (t, jw_tn hm b (jz_np hm b) 0 V) else jw_rs hm b n (t + 1) (jw_tn hm b (jz_np hm b) 0 V)
def jy_W4 (S : Nat → Nat → Int32) (hm : jx_H) (b : Nat) : Prop := ∀ q l, q < jz_np hm b → l < 32 → S 44 (q * 32 + l) = jw_worth hm b q (nI l) (jz_nd hm b)
set_option maxHeartbeats 800000 in
set_option maxRecDepth 100000 in
theorem ev_woo {d : Nat} {h : jx_H} {Q : Option jx_V → jx_H → Prop} {hm : jx_H} {b r p v : Nat} {V : Nat → Nat} {S : Nat → Nat → Int32} (hw : jz_W hm b) (hA : jy_A h 0 r (jA hm)) (hR : jy_R h r hm b) (hmo : ¬ jC hm b 0 0 = 0) (hS : jy_S S (jh_I h 7 r 13) hm b) (h44 : jy_W4 S hm b) (hV : ∀ q, V q < 32) (hp : p < jz_np hm b) (hv : v < 32) (h43 : ∀ q, q < jz_np hm b → q ≠ p → S 43 q = nI (V q)) (k : ∀ S' : Nat → Nat → Int32, (∀ x, x ≠ 38 → x ≠ 43 → S' x = S x) → (∀ q, q < jz_np hm b → S' 43 q = nI (jw_stv V p v q)) → Q (some (jv_i (jw_wb hm b V p v))) (jP h S' (0 + 1)))  : jx_Ev jm_Sway_worthOfOutcome (d + 6) 0 0 false 0 [jv_r 8 0, jv_i (nI p), jv_i (nI v)] (jP h S (0 + 1)) Q := by
  show jx_W (jm_Sway_worthOfOutcome, d + 6, 0, 0, false, 0, _) Q 0 0 0 [some (jv_r 8 0), some (jv_i (nI p)), some (jv_i (nI v)), none] [] _
  have hnp5 := hw.2.2.1.2.1.2
  refine jr_aload rfl rfl ?_
  refine jr_getR rfl rfl rfl rfl (Or.inl rfl) ?_
  refine jr_iload rfl rfl ?_
  refine jr_iload rfl rfl ?_
  refine jr_iast (len := 5) rfl rfl rfl (by omega) ?_
  simp only [jP_43, jP_r43]
  refine jr_aload rfl rfl ?_
  refine jr_getR rfl rfl rfl rfl (Or.inl rfl) ?_
  refine jr_aload rfl rfl ?_
  refine jr_getR rfl rfl rfl rfl (Or.inl rfl) ?_
  refine jr_cv1 (mc' := 0) (ms' := 0) rfl jm_Poll_outcome_n jm_Poll_outcome_f rfl rfl rfl rfl rfl rfl rfl (Nat.zero_le _) (Nat.zero_le _) ?_
  have h43' : ∀ q, q < jz_np hm b → upd (S 43) p (nI v) q = nI (jw_stv V p v q) := fun q hq => by
    by_cases e : q = p
    · rw [e, jg_us, jw_stv_e]
    · rw [jg_un e, jw_stv_n V e]; exact h43 q hq e
  obtain ⟨w, hw1, hw2⟩ := jw_count_in (V := jw_stv V p v) (M := jw_mayb hm b) (way := jC hm b 15 0) hw.2.2.2 hnp5 (fun q _ => jw_stv_lt hV hv q) (jw_mayb_ex hw hmo)
  refine ev_outcome43 (V := jw_stv V p v) hw hA hR hmo hS.2.1 (fun q hq => ⟨h43' q hq, jw_stv_lt hV hv q⟩) (fun S3 f3 => ?_)
  rw [hw1]
  refine jr_ist3 rfl rfl ?_
  refine jr_iload rfl rfl ?_
  refine jr_cn1 (mc' := 0) (ms' := 0) rfl jm_JV_isLength_n jm_JV_isLength_f rfl rfl (by first | exact Or.inl ⟨rfl, rfl⟩ | exact Or.inr ⟨rfl, rfl⟩) rfl rfl rfl rfl (Nat.zero_le _) (Nat.zero_le _) ?_
  show jx_W (jm_JV_isLength, _, _, _, _, _, _) _ 0 0 0 [some _] [] _
  refine jr_iload rfl rfl ?_
  refine jr_if_lt rfl (fun z => absurd z (nI_pos (by omega))) (fun _ => ?_)
  refine jr_iload rfl rfl ?_
  refine jr_ic rfl ?_
  refine jr_icmp_gt rfl (fun z => absurd z (nI_nlt (a := 31) (b := w) (by omega) (by omega))) (fun _ => ?_)
  refine jr_ic rfl ?_
  refine jr_goto rfl ?_
  refine jr_zret rfl rfl rfl (Nat.zero_le _) (Nat.zero_le _) ?_
  refine jr_if_eq rfl (fun z => absurd z (by decide)) (fun _ => ?_)
  refine jr_aload rfl rfl ?_
  refine jr_getR rfl rfl rfl rfl (Or.inl rfl) ?_
  refine jr_iload rfl rfl ?_
  refine jr_ic rfl ?_
  refine jr_imul rfl ?_
  refine jr_iload rfl rfl ?_
  refine jr_iadd rfl ?_
  rw [show nI p * 32 + nI w = nI (p * 32 + w) from jn_add (jn_mul rfl (jn_c 32)) rfl]
  refine jr_iald (len := 160) rfl rfl rfl (by omega) ?_
  rw [show jh_I (jP h S3 (0 + 1)) 44 0 (p * 32 + w) = jw_worth hm b p (nI w) (jz_nd hm b) from (congrFun (f3 44 (by decide)) _).trans (h44 p w hp (by omega))]
  refine jr_goto rfl ?_
  refine jr_iret rfl rfl (Nat.zero_le _) (Nat.zero_le _) ?_
  have := k S3 (fun x h1 h2 => (f3 x h1).trans (if_neg h2)) (fun q hq => (congrFun (f3 43 (by decide)) q).trans (h43' q hq))
  unfold jw_wb at this
  rw [hw1] at this
  exact this

set_option maxHeartbeats 800000 in
set_option maxRecDepth 100000 in
theorem lp_best {d n0 : Nat} {Q : Option jx_V → jx_H → Prop} {h hm : jx_H} {b r p : Nat} {V : Nat → Nat} (S : Nat → Nat → Int32) (l o : Nat) (x5 : Option jx_V) (hw : jz_W hm b) (hA : jy_A h 0 r (jA hm)) (hR : jy_R h r hm b) (hmo : ¬ jC hm b 0 0 = 0) (hS : jy_S S (jh_I h 7 r 13) hm b) (h44 : jy_W4 S hm b) (hV : ∀ q, V q < 32) (hp : p < jz_np hm b) (hl : l ≤ 32) (ho : o < 32) (h43 : ∀ q, q < jz_np hm b → q ≠ p → S 43 q = nI (V q)) (k : ∀ S' : Nat → Nat → Int32, (∀ x, x ≠ 38 → x ≠ 43 → S' x = S x) → (∀ q, q < jz_np hm b → q ≠ p → S' 43 q = nI (V q)) → Q (some (jv_i (nI (jw_bv hm b V p (32 - l) l o)))) (jP h S' (0 + 1)))  : jx_W (jm_Sway_bestVote, d + 7, 0, 0, false, 0, n0) Q 0 0 12 [some (jv_r 8 0), some (jv_i (nI p)), some (jv_i (nI o)), some (jv_i (jw_wb hm b V p o)), some (jv_i (nI l)), x5] [] (jP h S (0 + 1)) := by
  have hnp5 := hw.2.2.1.2.1.2
  refine jr_iload rfl rfl ?_
  refine jr_ic rfl ?_
  refine jr_icmp_ge rfl (fun c14 => ?_) (fun c14 => ?_)
  · refine jr_iload rfl rfl ?_
    refine jr_iret rfl rfl (Nat.zero_le _) (Nat.zero_le _) ?_
    have hl2 : 32 ≤ l := jn_le (show nI 32 ≤ nI l from c14) (by omega) (by omega)
    have := k S (fun _ _ _ => rfl) h43
    rw [show 32 - l = 0 by omega] at this
    exact this
  · have hl1 : l < 32 := jn_nle (show ¬ nI 32 ≤ nI l from c14) (by omega) (by omega)
    have hn : 32 - l = (32 - (l + 1)) + 1 := by omega
    refine jr_aload rfl rfl ?_
    refine jr_getR rfl rfl rfl rfl (Or.inl rfl) ?_
    refine jr_iload rfl rfl ?_
    refine jr_cv1 (mc' := 0) (ms' := 0) rfl jm_Poll_mayBe_n jm_Poll_mayBe_f rfl rfl rfl rfl rfl rfl rfl (Nat.zero_le _) (Nat.zero_le _) ?_
    refine ev_Poll_mayBe (l := l) (by omega) ?_
    rw [hS.2.1 l (by omega), jw_mayb_if]
    refine jr_if_eq rfl (fun c19 => ?_) (fun c19 => ?_)
    · refine jr_iinc4 rfl rfl ?_
      refine jr_goto rfl ?_
      rw [jn_S]
      refine lp_best S (l + 1) o _ hw hA hR hmo hS h44 hV hp (by omega) (by omega) h43 (fun S' f' h' => ?_)
      have := k S' f' h'
      rw [hn, jw_bv, if_pos c19] at this
      exact this
    · refine jr_aload rfl rfl ?_
      refine jr_iload rfl rfl ?_
      refine jr_iload rfl rfl ?_
      refine jr_cv2 (mc' := 0) (ms' := 0) rfl jm_Sway_worthOfOutcome_n jm_Sway_worthOfOutcome_f rfl rfl rfl rfl rfl rfl rfl (Nat.zero_le _) (Nat.zero_le _) ?_
      refine ev_woo (V := V) hw hA hR hmo hS h44 hV hp (by omega) h43 (fun S1 f1 g1 => ?_)
      refine jr_ist5 rfl rfl ?_
      refine jr_iload rfl rfl ?_
      refine jr_iload rfl rfl ?_
      refine jr_icmp_le rfl (fun c27 => ?_) (fun c27 => ?_)
      · refine jr_iinc4 rfl rfl ?_
        refine jr_goto rfl ?_
        rw [jn_S]
        refine lp_best S1 (l + 1) o _ hw hA hR hmo (jy_S_fr hS (fun x hx => f1 x (by omega) (by omega))) (fun q j hq hj => (congrFun (f1 44 (by decide) (by decide)) _).trans (h44 q j hq hj)) hV hp (by omega) (by omega) (fun q hq hn => (g1 q hq).trans (congrArg nI (jw_stv_n V hn))) (fun S' f' h' => ?_)
        have := k S' (fun x h1 h2 => (f' x h1 h2).trans (f1 x h1 h2)) h'
        rw [hn, jw_bv, if_neg c19, if_pos c27] at this
        exact this
      · refine jr_iload rfl rfl ?_
        refine jr_ist2 rfl rfl ?_
        refine jr_iload rfl rfl ?_
        refine jr_ist3 rfl rfl ?_
        refine jr_iinc4 rfl rfl ?_
        refine jr_goto rfl ?_
        rw [jn_S]
        refine lp_best S1 (l + 1) l _ hw hA hR hmo (jy_S_fr hS (fun x hx => f1 x (by omega) (by omega))) (fun q j hq hj => (congrFun (f1 44 (by decide) (by decide)) _).trans (h44 q j hq hj)) hV hp (by omega) (by omega) (fun q hq hn => (g1 q hq).trans (congrArg nI (jw_stv_n V hn))) (fun S' f' h' => ?_)
        have := k S' (fun x h1 h2 => (f' x h1 h2).trans (f1 x h1 h2)) h'
        rw [hn, jw_bv, if_neg c19, if_neg c27] at this
        exact this
termination_by 32 - l
decreasing_by all_goals omega

set_option maxHeartbeats 800000 in
set_option maxRecDepth 100000 in
theorem ev_best {d : Nat} {h : jx_H} {Q : Option jx_V → jx_H → Prop} {hm : jx_H} {b r p : Nat} {V : Nat → Nat} {S : Nat → Nat → Int32} (hw : jz_W hm b) (hA : jy_A h 0 r (jA hm)) (hR : jy_R h r hm b) (hmo : ¬ jC hm b 0 0 = 0) (hS : jy_S S (jh_I h 7 r 13) hm b) (h44 : jy_W4 S hm b) (hV : ∀ q, V q < 32) (hp : p < jz_np hm b) (h43 : ∀ q, q < jz_np hm b → S 43 q = nI (V q)) (k : ∀ S' : Nat → Nat → Int32, (∀ x, x ≠ 38 → x ≠ 43 → S' x = S x) → (∀ q, q < jz_np hm b → q ≠ p → S' 43 q = nI (V q)) → Q (some (jv_i (nI (jw_bp hm b V p)))) (jP h S' (0 + 1)))  : jx_Ev jm_Sway_bestVote (d + 7) 0 0 false 0 [jv_r 8 0, jv_i (nI p)] (jP h S (0 + 1)) Q := by
  show jx_W (jm_Sway_bestVote, d + 7, 0, 0, false, 0, _) Q 0 0 0 [some (jv_r 8 0), some (jv_i (nI p)), none, none, none, none] [] _
  have hnp5 := hw.2.2.1.2.1.2
  refine jr_aload rfl rfl ?_
  refine jr_getR rfl rfl rfl rfl (Or.inl rfl) ?_
  refine jr_iload rfl rfl ?_
  refine jr_iald (len := 5) rfl rfl rfl (by omega) ?_
  rw [show jh_I (jP h S (0 + 1)) 43 0 p = nI (V p) from h43 p hp]
  refine jr_ist2 rfl rfl ?_
  refine jr_aload rfl rfl ?_
  refine jr_iload rfl rfl ?_
  refine jr_iload rfl rfl ?_
  refine jr_cv2 (mc' := 0) (ms' := 0) rfl jm_Sway_worthOfOutcome_n jm_Sway_worthOfOutcome_f rfl rfl rfl rfl rfl rfl rfl (Nat.zero_le _) (Nat.zero_le _) ?_
  refine ev_woo (V := V) hw hA hR hmo hS h44 hV hp (hV p) (fun q hq _ => h43 q hq) (fun S1 f1 g1 => ?_)
  refine jr_ist3 rfl rfl ?_
  refine jr_ic rfl ?_
  refine jr_ist4 rfl rfl ?_
  refine lp_best S1 0 (V p) _ hw hA hR hmo (jy_S_fr hS (fun x hx => f1 x (by omega) (by omega))) (fun q j hq hj => (congrFun (f1 44 (by decide) (by decide)) _).trans (h44 q j hq hj)) hV hp (by omega) (hV p) (fun q hq hn => (g1 q hq).trans (congrArg nI (jw_stv_n V hn))) (fun S' f' h' => ?_)
  exact k S' (fun x h1 h2 => (f' x h1 h2).trans (f1 x h1 h2)) h'

theorem jw_bi0 : ∀ c, jw_bi c ||| 0 = jw_bi c := by decide
theorem jw_bi1 : ∀ c, jw_bi c ||| 1 = jw_bi true := by decide
set_option maxHeartbeats 800000 in
set_option maxRecDepth 100000 in
theorem lp_tc {d n0 : Nat} {Q : Option jx_V → jx_H → Prop} {h hm : jx_H} {b r : Nat} (S : Nat → Nat → Int32) (p : Nat) (V : Nat → Nat) (c : Bool) (x3 : Option jx_V) (hw : jz_W hm b) (hA : jy_A h 0 r (jA hm)) (hR : jy_R h r hm b) (hmo : ¬ jC hm b 0 0 = 0) (hS : jy_S S (jh_I h 7 r 13) hm b) (h44 : jy_W4 S hm b) (hV : ∀ q, V q < 32) (hp : p ≤ jz_np hm b) (h43 : ∀ q, q < jz_np hm b → S 43 q = nI (V q)) (k : ∀ S' : Nat → Nat → Int32, (∀ x, x ≠ 38 → x ≠ 43 → S' x = S x) → (∀ q, q < jz_np hm b → S' 43 q = nI (jw_tn hm b (jz_np hm b - p) p V q)) → Q (some (jv_i (jw_bi (jw_tc hm b (jz_np hm b - p) p V c)))) (jP h S' (0 + 1)))  : jx_W (jm_Sway_turnChangesVotes, d + 8, 0, 0, false, 0, n0) Q 0 0 4 [some (jv_r 8 0), some (jv_i (jw_bi c)), some (jv_i (nI p)), x3] [] (jP h S (0 + 1)) := by
  have hnp5 := hw.2.2.1.2.1.2
  refine jr_iload rfl rfl ?_
  refine jr_aload rfl rfl ?_
  refine jr_getI rfl rfl ?_
  rw [show jh_I (jP h S (0 + 1)) 8 0 4 = nI (jz_np hm b) from hS.2.2.2]
  refine jr_icmp_ge rfl (fun c7 => ?_) (fun c7 => ?_)
  · refine jr_iload rfl rfl ?_
    refine jr_zret rfl rfl (by cases c <;> rfl) (Nat.zero_le _) (Nat.zero_le _) ?_
    have hp2 : jz_np hm b - p = 0 := by have := jn_le (show nI (jz_np hm b) ≤ nI p from c7) (by omega) (by omega); omega
    rw [hp2] at k
    exact k S (fun _ _ _ => rfl) h43
  · have hp1 : p < jz_np hm b := jn_nle (show ¬ nI (jz_np hm b) ≤ nI p from c7) (by omega) (by omega)
    have hn : jz_np hm b - p = (jz_np hm b - (p + 1)) + 1 := by omega
    rw [hn] at k
    rw [jw_tn, jw_tc] at k
    refine jr_aload rfl rfl ?_
    refine jr_getR rfl rfl rfl rfl (Or.inl rfl) ?_
    refine jr_iload rfl rfl ?_
    refine jr_iald (len := 5) rfl rfl rfl (by omega) ?_
    rw [show jh_I (jP h S (0 + 1)) 43 0 p = nI (V p) from h43 p hp1]
    refine jr_ist3 rfl rfl ?_
    refine jr_aload rfl rfl ?_
    refine jr_getR rfl rfl rfl rfl (Or.inl rfl) ?_
    refine jr_iload rfl rfl ?_
    refine jr_aload rfl rfl ?_
    refine jr_iload rfl rfl ?_
    refine jr_cv1 (mc' := 0) (ms' := 0) rfl jm_Sway_bestVote_n jm_Sway_bestVote_f rfl rfl rfl rfl rfl rfl rfl (Nat.zero_le _) (Nat.zero_le _) ?_
    refine ev_best (V := V) hw hA hR hmo hS h44 hV hp1 h43 (fun S1 f1 g1 => ?_)
    refine jr_iast (len := 5) rfl rfl rfl (by omega) ?_
    simp only [jP_43, jP_r43]
    refine jr_iload rfl rfl ?_
    refine jr_aload rfl rfl ?_
    refine jr_getR rfl rfl rfl rfl (Or.inl rfl) ?_
    refine jr_iload rfl rfl ?_
    refine jr_iald (len := 5) rfl rfl rfl (by omega) ?_
    rw [show jh_I (jP h (fun x => if x = 43 then upd (S1 43) p (nI (jw_bp hm b V p)) else S1 x) (0 + 1)) 43 0 p = nI (jw_bp hm b V p) from jg_us _ _ _]
    refine jr_iload rfl rfl ?_
    refine jr_icmp_eq rfl (fun c26 => ?_) (fun c26 => ?_)
    · refine jr_ic rfl ?_
      refine jr_ior rfl ?_
      refine jr_ist1 rfl rfl ?_
      refine jr_iinc2 rfl rfl ?_
      refine jr_goto rfl ?_
      rw [show jw_bi c ||| 0 = jw_bi (c || decide (¬ jw_bp hm b V p = V p)) by rw [decide_eq_false (show ¬ ¬ jw_bp hm b V p = V p from fun z => z (jn_eq (show nI (jw_bp hm b V p) = nI (V p) from c26) (by have := @jw_bp_lt hm b V p hV; omega) (by have := hV p; omega))), Bool.or_false]; exact jw_bi0 c]
      rw [jn_S]
      refine lp_tc (fun x => if x = 43 then upd (S1 43) p (nI (jw_bp hm b V p)) else S1 x) (p + 1) (jw_stv V p (jw_bp hm b V p)) _ _ hw hA hR hmo (jy_S_fr hS (fun x hx => (if_neg (by omega)).trans (f1 x (by omega) (by omega)))) (fun q j hq hj => (congrFun (f1 44 (by decide) (by decide)) _).trans (h44 q j hq hj)) (fun q => jw_stv_lt hV (jw_bp_lt hV) q) (by omega) (fun q hq => ?_) (fun S' f' h' => k S' (fun x h1 h2 => (f' x h1 h2).trans ((if_neg h2).trans (f1 x h1 h2))) h')
      show upd (S1 43) p (nI (jw_bp hm b V p)) q = _
      by_cases e : q = p
      · rw [e, jg_us, jw_stv_e]
      · rw [jg_un e, jw_stv_n V e]; exact g1 q hq e
    · refine jr_ic rfl ?_
      refine jr_goto rfl ?_
      refine jr_ior rfl ?_
      refine jr_ist1 rfl rfl ?_
      refine jr_iinc2 rfl rfl ?_
      refine jr_goto rfl ?_
      rw [show jw_bi c ||| 1 = jw_bi (c || decide (¬ jw_bp hm b V p = V p)) by rw [decide_eq_true (show ¬ jw_bp hm b V p = V p from fun z => c26 (congrArg nI z)), Bool.or_true]; exact jw_bi1 c]
      rw [jn_S]
      refine lp_tc (fun x => if x = 43 then upd (S1 43) p (nI (jw_bp hm b V p)) else S1 x) (p + 1) (jw_stv V p (jw_bp hm b V p)) _ _ hw hA hR hmo (jy_S_fr hS (fun x hx => (if_neg (by omega)).trans (f1 x (by omega) (by omega)))) (fun q j hq hj => (congrFun (f1 44 (by decide) (by decide)) _).trans (h44 q j hq hj)) (fun q => jw_stv_lt hV (jw_bp_lt hV) q) (by omega) (fun q hq => ?_) (fun S' f' h' => k S' (fun x h1 h2 => (f' x h1 h2).trans ((if_neg h2).trans (f1 x h1 h2))) h')
      show upd (S1 43) p (nI (jw_bp hm b V p)) q = _
      by_cases e : q = p
      · rw [e, jg_us, jw_stv_e]
      · rw [jg_un e, jw_stv_n V e]; exact g1 q hq e
termination_by jz_np hm b - p
decreasing_by all_goals omega

set_option maxHeartbeats 800000 in
set_option maxRecDepth 100000 in
theorem ev_tc {d : Nat} {h : jx_H} {Q : Option jx_V → jx_H → Prop} {hm : jx_H} {b r : Nat} {V : Nat → Nat} {S : Nat → Nat → Int32} (hw : jz_W hm b) (hA : jy_A h 0 r (jA hm)) (hR : jy_R h r hm b) (hmo : ¬ jC hm b 0 0 = 0) (hS : jy_S S (jh_I h 7 r 13) hm b) (h44 : jy_W4 S hm b) (hV : ∀ q, V q < 32) (h43 : ∀ q, q < jz_np hm b → S 43 q = nI (V q)) (k : ∀ S' : Nat → Nat → Int32, (∀ x, x ≠ 38 → x ≠ 43 → S' x = S x) → (∀ q, q < jz_np hm b → S' 43 q = nI (jw_tn hm b (jz_np hm b) 0 V q)) → Q (some (jv_i (jw_bi (jw_tc hm b (jz_np hm b) 0 V false)))) (jP h S' (0 + 1)))  : jx_Ev jm_Sway_turnChangesVotes (d + 8) 0 0 false 0 [jv_r 8 0] (jP h S (0 + 1)) Q := by
  show jx_W (jm_Sway_turnChangesVotes, d + 8, 0, 0, false, 0, _) Q 0 0 0 [some (jv_r 8 0), none, none, none] [] _
  refine jr_ic rfl ?_
  refine jr_ist1 rfl rfl ?_
  refine jr_ic rfl ?_
  refine jr_ist2 rfl rfl ?_
  exact lp_tc S 0 V false _ hw hA hR hmo hS h44 hV (Nat.zero_le _) h43 k

set_option maxHeartbeats 800000 in
set_option maxRecDepth 100000 in
theorem lp_fill2 {d n0 : Nat} {Q : Option jx_V → jx_H → Prop} {h hm : jx_H} {b r p : Nat} (S : Nat → Nat → Int32) (l : Nat) (hw : jz_W hm b) (hA : jy_A h 0 r (jA hm)) (hR : jy_R h r hm b) (hmo : ¬ jC hm b 0 0 = 0) (hS : jy_S S (jh_I h 7 r 13) hm b) (hp : p < jz_np hm b) (hl : l ≤ 32) (h43 : ∀ q, q ≤ p → S 43 q = nI (jw_V hm b q)) (h44 : ∀ q j, q < p → j < 32 → S 44 (q * 32 + j) = jw_worth hm b q (nI j) (jz_nd hm b)) (h45 : ∀ j, j < l → S 44 (p * 32 + j) = jw_worth hm b p (nI j) (jz_nd hm b)) (k : ∀ S' : Nat → Nat → Int32, jy_S S' (jh_I h 7 r 13) hm b → (∀ q, q ≤ p → S' 43 q = nI (jw_V hm b q)) → (∀ q j, q < p + 1 → j < 32 → S' 44 (q * 32 + j) = jw_worth hm b q (nI j) (jz_nd hm b)) → jx_W (jm_Sway_turnsTillRest, d + 8, 0, 0, false, 0, n0) Q 0 0 34 [some (jv_r 8 0), some (jv_i (nI p)), some (jv_i (nI 32))] [] (jP h S' (0 + 1)))  : jx_W (jm_Sway_turnsTillRest, d + 8, 0, 0, false, 0, n0) Q 0 0 16 [some (jv_r 8 0), some (jv_i (nI p)), some (jv_i (nI l))] [] (jP h S (0 + 1)) := by
  have hnp5 := hw.2.2.1.2.1.2
  refine jr_iload rfl rfl ?_
  refine jr_ic rfl ?_
  refine jr_icmp_ge rfl (fun c18 => ?_) (fun c18 => ?_)
  · have hl2 : l = 32 := by have := jn_le (show nI 32 ≤ nI l from c18) (by omega) (by omega); omega
    subst hl2
    exact k S hS h43 (fun q j hq hj => by
      by_cases e : q = p
      · rw [e]; exact h45 j hj
      · exact h44 q j (by omega) hj)
  · have hl1 : l < 32 := jn_nle (show ¬ nI 32 ≤ nI l from c18) (by omega) (by omega)
    refine jr_aload rfl rfl ?_
    refine jr_getR rfl rfl rfl rfl (Or.inl rfl) ?_
    refine jr_iload rfl rfl ?_
    refine jr_ic rfl ?_
    refine jr_imul rfl ?_
    refine jr_iload rfl rfl ?_
    refine jr_iadd rfl ?_
    rw [show nI p * 32 + nI l = nI (p * 32 + l) from jn_add (jn_mul rfl (jn_c 32)) rfl]
    refine jr_aload rfl rfl ?_
    refine jr_getR rfl rfl rfl rfl (Or.inl rfl) ?_
    refine jr_iload rfl rfl ?_
    refine jr_iload rfl rfl ?_
    refine jr_cv2 (mc' := 0) (ms' := 0) rfl jm_Poll_worthOf_n jm_Poll_worthOf_f rfl rfl rfl rfl rfl rfl rfl (Nat.zero_le _) (Nat.zero_le _) ?_
    show jx_W (jm_Poll_worthOf, _, _, _, _, _, _) _ 0 0 0 [some _, some _, some _] [] _
    refine jr_aload rfl rfl ?_
    refine jr_iload rfl rfl ?_
    refine jr_iload rfl rfl ?_
    refine jr_iload rfl rfl ?_
    refine jr_cv3 (mc' := 0) (ms' := 0) rfl jm_Poll_valueOf_n jm_Poll_valueOf_f rfl rfl rfl rfl rfl rfl rfl (Nat.zero_le _) (Nat.zero_le _) ?_
    refine eP_worth hw hmo hA hR hS.1 (by omega) hl1 (fun S1 f1 => ?_)
    refine jr_iret rfl rfl (Nat.zero_le _) (Nat.zero_le _) ?_
    refine jr_iast (len := 160) rfl rfl rfl (by omega) ?_
    simp only [jP_44, jP_r44]
    refine jr_iinc2 rfl rfl ?_
    refine jr_goto rfl ?_
    rw [jn_S]
    refine lp_fill2 (fun x => if x = 44 then upd (S1 44) (p * 32 + l) (jw_worth hm b p (nI l) (jz_nd hm b)) else S1 x) (l + 1) hw hA hR hmo (jy_S_fr hS (fun x hx => (if_neg (by omega)).trans (f1 x (by omega)))) hp (by omega) (fun q hq => (congrFun (f1 43 (by decide)) q).trans (h43 q hq)) (fun q j hq hj => ?_) (fun j hj => ?_) k
    · show upd (S1 44) (p * 32 + l) _ (q * 32 + j) = _
      rw [jg_un (by omega)]
      exact (congrFun (f1 44 (by decide)) _).trans (h44 q j hq hj)
    · show upd (S1 44) (p * 32 + l) _ (p * 32 + j) = _
      by_cases e : j = l
      · rw [e, jg_us]
      · rw [jg_un (by omega)]
        exact (congrFun (f1 44 (by decide)) _).trans (h45 j (by omega))
termination_by 32 - l
decreasing_by all_goals omega

set_option maxHeartbeats 800000 in
set_option maxRecDepth 100000 in
theorem lp_fill1 {d n0 : Nat} {Q : Option jx_V → jx_H → Prop} {h hm : jx_H} {b r : Nat} (S : Nat → Nat → Int32) (p : Nat) (x2 : Option jx_V) (hw : jz_W hm b) (hA : jy_A h 0 r (jA hm)) (hR : jy_R h r hm b) (hmo : ¬ jC hm b 0 0 = 0) (hS : jy_S S (jh_I h 7 r 13) hm b) (hp : p ≤ jz_np hm b) (h43 : ∀ q, q < p → S 43 q = nI (jw_V hm b q)) (h44 : ∀ q j, q < p → j < 32 → S 44 (q * 32 + j) = jw_worth hm b q (nI j) (jz_nd hm b)) (k : ∀ (S' : Nat → Nat → Int32) (y : Option jx_V), jy_S S' (jh_I h 7 r 13) hm b → (∀ q, q < jz_np hm b → S' 43 q = nI (jw_V hm b q)) → jy_W4 S' hm b → jx_W (jm_Sway_turnsTillRest, d + 8, 0, 0, false, 0, n0) Q 0 0 36 [some (jv_r 8 0), some (jv_i (nI (jz_np hm b))), y] [] (jP h S' (0 + 1)))  : jx_W (jm_Sway_turnsTillRest, d + 8, 0, 0, false, 0, n0) Q 0 0 2 [some (jv_r 8 0), some (jv_i (nI p)), x2] [] (jP h S (0 + 1)) := by
  have hnp5 := hw.2.2.1.2.1.2
  refine jr_iload rfl rfl ?_
  refine jr_aload rfl rfl ?_
  refine jr_getI rfl rfl ?_
  rw [show jh_I (jP h S (0 + 1)) 8 0 4 = nI (jz_np hm b) from hS.2.2.2]
  refine jr_icmp_ge rfl (fun c5 => ?_) (fun c5 => ?_)
  · have hp2 : p = jz_np hm b := by have := jn_le (show nI (jz_np hm b) ≤ nI p from c5) (by omega) (by omega); omega
    subst hp2
    exact k S x2 hS h43 h44
  · have hp1 : p < jz_np hm b := jn_nle (show ¬ nI (jz_np hm b) ≤ nI p from c5) (by omega) (by omega)
    refine jr_aload rfl rfl ?_
    refine jr_getR rfl rfl rfl rfl (Or.inl rfl) ?_
    refine jr_iload rfl rfl ?_
    refine jr_aload rfl rfl ?_
    refine jr_getR rfl rfl rfl rfl (Or.inl rfl) ?_
    refine jr_iload rfl rfl ?_
    refine jr_iald (len := 5) rfl rfl rfl (by omega) ?_
    rw [show jh_I (jP h S (0 + 1)) 42 0 p = nI (jw_V hm b p) from hS.2.2.1 p hp1]
    refine jr_iast (len := 5) rfl rfl rfl (by omega) ?_
    simp only [jP_43, jP_r43]
    refine jr_ic rfl ?_
    refine jr_ist2 rfl rfl ?_
    refine lp_fill2 (fun x => if x = 43 then upd (S 43) p (nI (jw_V hm b p)) else S x) 0 hw hA hR hmo (jy_S_fr hS (fun x hx => if_neg (by omega))) hp1 (by omega) (fun q hq => ?_) h44 (fun j hj => absurd hj (by omega)) (fun S2 hS2 g43 g44 => ?_)
    · show upd (S 43) p _ q = _
      by_cases e : q = p
      · rw [e, jg_us]
      · rw [jg_un e]; exact h43 q (by omega)
    · refine jr_iinc1 rfl rfl ?_
      refine jr_goto rfl ?_
      rw [jn_S]
      exact lp_fill1 S2 (p + 1) _ hw hA hR hmo hS2 (by omega) (fun q hq => g43 q (by omega)) g44 k
termination_by jz_np hm b - p
decreasing_by all_goals omega

theorem jw_rs_lt {hm : jx_H} {b : Nat} : ∀ n t V, (∀ q, V q < 32) → ∀ t' V', jw_rs hm b n t V = some (t', V') → t' < t + n ∧ ∀ q, V' q < 32
  | 0, _, _, _, t', V', e => by simp [jw_rs] at e
  | n + 1, t, V, hV, t', V', e => by
    rw [jw_rs] at e
    split at e
    · injection e with e
      injection e with e1 e2
      subst e1 e2
      exact ⟨by omega, jw_tn_lt _ _ _ hV⟩
    · have := jw_rs_lt n (t + 1) _ (jw_tn_lt _ _ _ hV) t' V' e
      exact ⟨by omega, this.2⟩
theorem jw_biz {c : Bool} (h : jw_bi c = 0) : c = false := by cases c; rfl; exact absurd h (by decide)
theorem jw_bin {c : Bool} (h : ¬ jw_bi c = 0) : ¬ c = false := fun z => h (by rw [z]; rfl)
set_option maxHeartbeats 800000 in
set_option maxRecDepth 100000 in
theorem lp_rest {d n0 : Nat} {Q : Option jx_V → jx_H → Prop} {h hm : jx_H} {b r : Nat} (S : Nat → Nat → Int32) (t : Nat) (V : Nat → Nat) (x2 : Option jx_V) (hw : jz_W hm b) (hA : jy_A h 0 r (jA hm)) (hR : jy_R h r hm b) (hmo : ¬ jC hm b 0 0 = 0) (hS : jy_S S (jh_I h 7 r 13) hm b) (h44 : jy_W4 S hm b) (hV : ∀ q, V q < 32) (ht : t ≤ 41) (h43 : ∀ q, q < jz_np hm b → S 43 q = nI (V q)) (k0 : jw_rs hm b (41 - t) t V = none → ∀ S' : Nat → Nat → Int32, Q (some (jv_i (-1))) (jP h S' (0 + 1))) (k1 : ∀ t' V', jw_rs hm b (41 - t) t V = some (t', V') → ∀ S' : Nat → Nat → Int32, jy_S S' (jh_I h 7 r 13) hm b → (∀ q, q < jz_np hm b → S' 43 q = nI (V' q)) → Q (some (jv_i (nI t'))) (jP h S' (0 + 1)))  : jx_W (jm_Sway_turnsTillRest, d + 9, 0, 0, false, 0, n0) Q 0 0 38 [some (jv_r 8 0), some (jv_i (nI t)), x2] [] (jP h S (0 + 1)) := by
  refine jr_iload rfl rfl ?_
  refine jr_ic rfl ?_
  refine jr_icmp_gt rfl (fun c40 => ?_) (fun c40 => ?_)
  · refine jr_ic rfl ?_
    refine jr_iret rfl rfl (Nat.zero_le _) (Nat.zero_le _) ?_
    have ht2 : 41 - t = 0 := by have := jn_lt (show nI 40 < nI t from c40) (by omega) (by omega); omega
    rw [ht2] at k0
    exact k0 rfl S
  · have ht1 : t ≤ 40 := jn_nlt (show ¬ nI 40 < nI t from c40) (by omega) (by omega)
    have hn : 41 - t = (41 - (t + 1)) + 1 := by omega
    rw [hn] at k0 k1
    rw [jw_rs] at k0
    simp only [jw_rs] at k1
    refine jr_aload rfl rfl ?_
    refine jr_cv0 (mc' := 0) (ms' := 0) rfl jm_Sway_turnChangesVotes_n jm_Sway_turnChangesVotes_f rfl rfl rfl rfl rfl rfl rfl (Nat.zero_le _) (Nat.zero_le _) ?_
    refine ev_tc (V := V) hw hA hR hmo hS h44 hV h43 (fun S1 f1 g1 => ?_)
    refine jr_if_ne rfl (fun c43 => ?_) (fun c43 => ?_)
    · refine jr_iinc1 rfl rfl ?_
      refine jr_goto rfl ?_
      rw [jn_S]
      rw [if_neg (jw_bin c43)] at k0
      simp only [if_neg (jw_bin c43)] at k1
      exact lp_rest S1 (t + 1) _ _ hw hA hR hmo (jy_S_fr hS (fun x hx => f1 x (by omega) (by omega))) (fun q j hq hj => (congrFun (f1 44 (by decide) (by decide)) _).trans (h44 q j hq hj)) (jw_tn_lt _ _ _ hV) (by omega) g1 k0 k1
    · refine jr_iload rfl rfl ?_
      refine jr_iret rfl rfl (Nat.zero_le _) (Nat.zero_le _) ?_
      exact k1 t _ (if_pos (jw_biz c43)) S1 (jy_S_fr hS (fun x hx => f1 x (by omega) (by omega))) g1
termination_by 41 - t
decreasing_by all_goals omega

set_option maxHeartbeats 800000 in
set_option maxRecDepth 100000 in
theorem ev_rest {d : Nat} {h : jx_H} {Q : Option jx_V → jx_H → Prop} {hm : jx_H} {b r : Nat} {S : Nat → Nat → Int32} (hw : jz_W hm b) (hA : jy_A h 0 r (jA hm)) (hR : jy_R h r hm b) (hmo : ¬ jC hm b 0 0 = 0) (hS : jy_S S (jh_I h 7 r 13) hm b) (k0 : jw_rs hm b 40 1 (jw_V hm b) = none → ∀ S' : Nat → Nat → Int32, Q (some (jv_i (-1))) (jP h S' (0 + 1))) (k1 : ∀ t' V', jw_rs hm b 40 1 (jw_V hm b) = some (t', V') → ∀ S' : Nat → Nat → Int32, jy_S S' (jh_I h 7 r 13) hm b → (∀ q, q < jz_np hm b → S' 43 q = nI (V' q)) → Q (some (jv_i (nI t'))) (jP h S' (0 + 1)))  : jx_Ev jm_Sway_turnsTillRest (d + 9) 0 0 false 0 [jv_r 8 0] (jP h S (0 + 1)) Q := by
  show jx_W (jm_Sway_turnsTillRest, d + 9, 0, 0, false, 0, _) Q 0 0 0 [some (jv_r 8 0), none, none] [] _
  refine jr_ic rfl ?_
  refine jr_ist1 rfl rfl ?_
  refine lp_fill1 S 0 _ hw hA hR hmo hS (Nat.zero_le _) (fun q hq => absurd hq (by omega)) (fun q j hq _ => absurd hq (by omega)) (fun S1 y hS1 h43 h44 => ?_)
  refine jr_ic rfl ?_
  refine jr_ist1 rfl rfl ?_
  exact lp_rest S1 1 (jw_V hm b) _ hw hA hR hmo hS1 h44 (fun q => (jw_V_eq hw hmo).2.1) (by omega) h43 k0 k1

