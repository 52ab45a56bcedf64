set_option maxHeartbeats 800000 in
set_option maxRecDepth 100000 in
theorem eS_wb {d : Nat} {Q : Option jx_V → jx_H → Prop} {hm : jx_H} {b p l : Nat} {V : Nat → Nat} {S : Nat → Nat → Int32} (hw : jz_W hm b) (hS : jz_S hm S) (hmo : ¬ jC hm b 0 0 = 0) (hV : ∀ q, V q < 32) (hM : ∀ j, j < 32 → S 100 j = jw_mayb hm b j) (h101 : ∀ q, q < jz_np hm b → S 101 q = nI (V q)) (hp : p < jz_np hm b) (hl : l < 32) (k : ∀ S' : Nat → Nat → Int32, jz_S hm S' → (∀ j, j < 32 → S' 100 j = jw_mayb hm b j) → (∀ q, q < jz_np hm b → S' 101 q = nI (V q)) → Q (some (jv_i (jw_wb hm b V p l))) (jS hm S'))  : jx_Ev jm_MD_worthBy (d + 6) 0 0 false 1 [jv_r 11 0, jv_i (nI p), jv_i (nI l)] (jS hm S) Q := by
  show jx_W (jm_MD_worthBy, d + 6, 0, 0, false, 1, _) Q 0 0 0 [some (jv_r 11 0), some (jv_i (nI p)), some (jv_i (nI l)), none, none] [] _
  have hnp5 := hw.2.2.1.2.1.2
  refine jr_aload rfl rfl ?_
  refine jr_getR rfl rfl rfl rfl (Or.inl rfl) ?_
  refine jr_iload rfl rfl ?_
  refine jr_iald (len := 5) rfl rfl rfl (by omega) ?_
  rw [show jh_I (jS hm S) 101 0 p = nI (V p) from h101 p hp]
  refine jr_ist3 rfl rfl ?_
  refine jr_aload rfl rfl ?_
  refine jr_getR rfl rfl rfl rfl (Or.inl rfl) ?_
  refine jr_iload rfl rfl ?_
  refine jr_iload rfl rfl ?_
  refine jr_iast (len := 5) rfl rfl rfl (by omega) ?_
  simp only [jS_101, jS_r101]
  refine jr_aload rfl rfl ?_
  refine jr_iload rfl rfl ?_
  refine jr_aload rfl rfl ?_
  refine jr_cv0 (mc' := 0) (ms' := 0) rfl jm_MD_countedBy_n jm_MD_countedBy_f rfl rfl rfl rfl rfl rfl rfl (Nat.zero_le _) (Nat.zero_le _) ?_
  have h' : ∀ q, q < jz_np hm b → upd (S 101) p (nI l) q = nI (jw_stv V p l q) := fun q hq => by
    by_cases e : q = p
    · rw [e, jg_us, jw_stv_e]
    · rw [jg_un e, jw_stv_n V e]; exact h101 q hq
  refine eS_countedBy (b := b) (M := jw_mayb hm b) (V := jw_stv V p l) (S := fun k => if k = 101 then upd (S 101) p (nI l) else S k) hw hS (fun q hq => ⟨h' q hq, jw_stv_lt hV hl q⟩) hM (jw_mayb_ex hw hmo) (fun S2 hS2 f2 => ?_)
  refine jr_cv2 (mc' := 0) (ms' := 0) rfl jm_MD_worthOf_n jm_MD_worthOf_f rfl rfl rfl rfl rfl rfl rfl (Nat.zero_le _) (Nat.zero_le _) ?_
  refine eS_worthOf (b := b) hw hS2 hmo (by omega) (fun S3 hS3 f3 => ?_)
  refine jr_ist4 rfl rfl ?_
  refine jr_aload rfl rfl ?_
  refine jr_getR rfl rfl rfl rfl (Or.inl rfl) ?_
  refine jr_iload rfl rfl ?_
  refine jr_iload rfl rfl ?_
  refine jr_iast (len := 5) rfl rfl rfl (by omega) ?_
  simp only [jS_101, jS_r101]
  refine jr_iload rfl rfl ?_
  refine jr_iret rfl rfl (Nat.zero_le _) (Nat.zero_le _) ?_
  refine k (fun k => if k = 101 then upd (S3 101) p (nI (V p)) else S3 k) hS3 (fun j hj => ?_) (fun q hq => ?_)
  · exact (congrFun ((f3 100 (by decide) (by decide)).trans (f2 100 (by decide))) j).trans (hM j hj)
  · show upd (S3 101) p (nI (V p)) q = _
    by_cases e : q = p
    · rw [e, jg_us]
    · rw [jg_un e]
      exact (congrFun ((f3 101 (by decide) (by decide)).trans (f2 101 (by decide))) q).trans ((h' q hq).trans (congrArg nI (jw_stv_n V e)))

set_option maxHeartbeats 800000 in
set_option maxRecDepth 100000 in
theorem lp_MD_better {d n0 : Nat} {Q : Option jx_V → jx_H → Prop} {hm : jx_H} {b p : Nat} {V : Nat → Nat} (S : Nat → Nat → Int32) (l o : Nat) (x5 : Option jx_V) (hw : jz_W hm b) (hS : jz_S hm S) (hmo : ¬ jC hm b 0 0 = 0) (hV : ∀ q, V q < 32) (hM : ∀ j, j < 32 → S 100 j = jw_mayb hm b j) (h101 : ∀ q, q < jz_np hm b → S 101 q = nI (V q)) (hp : p < jz_np hm b) (hl : l ≤ 32) (ho : o < 32) (k : ∀ S' : Nat → Nat → Int32, jz_S hm S' → (∀ j, j < 32 → S' 100 j = jw_mayb hm b j) → (∀ q, q < jz_np hm b → S' 101 q = nI (V q)) → Q (some (jv_i (nI (jw_bv hm b V p (32 - l) l o)))) (jS hm S'))  : jx_W (jm_MD_betterVote, d + 7, 0, 0, false, 1, n0) Q 0 0 12 [some (jv_r 11 0), some (jv_i (nI p)), some (jv_i (nI o)), some (jv_i (jw_wb hm b V p o)), some (jv_i (nI l)), x5] [] (jS hm S) := by
  have hnp5 := hw.2.2.1.2.1.2
  refine jr_iload rfl rfl ?_
  refine jr_ic rfl ?_
  refine jr_icmp_gt rfl (fun c14 => ?_) (fun c14 => ?_)
  · refine jr_iload rfl rfl ?_
    refine jr_iret rfl rfl (Nat.zero_le _) (Nat.zero_le _) ?_
    have hl2 : 32 - l = 0 := by have := jn_lt (show nI 31 < nI l from c14) (by omega) (by omega); omega
    rw [hl2] at k
    exact k S hS hM h101
  · have hl1 : l < 32 := by have := jn_nlt (show ¬ nI 31 < nI l from c14) (by omega) (by omega); omega
    have hn : 32 - l = (32 - (l + 1)) + 1 := by omega
    refine jr_aload rfl rfl ?_
    refine jr_getR rfl rfl rfl rfl (Or.inl rfl) ?_
    refine jr_iload rfl rfl ?_
    refine jr_zald (len := 32) rfl rfl rfl (by omega) ?_
    rw [show jh_I (jS hm S) 100 0 l = jw_mayb hm b l from hM l hl1]
    refine jr_if_ne rfl (fun c19 => ?_) (fun c19 => ?_)
    · refine jr_aload rfl rfl ?_
      refine jr_iload rfl rfl ?_
      refine jr_iload rfl rfl ?_
      refine jr_cv2 (mc' := 0) (ms' := 0) rfl jm_MD_worthBy_n jm_MD_worthBy_f rfl rfl rfl rfl rfl rfl rfl (Nat.zero_le _) (Nat.zero_le _) ?_
      refine eS_wb (V := V) hw hS hmo hV hM h101 hp hl1 (fun S1 hS1 hM1 g1 => ?_)
      refine jr_ist5 rfl rfl ?_
      refine jr_iload rfl rfl ?_
      refine jr_iload rfl rfl ?_
      refine jr_icmp_gt rfl (fun c28 => ?_) (fun c28 => ?_)
      · refine jr_iload rfl rfl ?_
        refine jr_ist2 rfl rfl ?_
        refine jr_iload rfl rfl ?_
        refine jr_ist3 rfl rfl ?_
        refine jr_iinc4 rfl rfl ?_
        refine jr_goto rfl ?_
        rw [jn_S]
        refine lp_MD_better S1 (l + 1) l _ hw hS1 hmo hV hM1 g1 hp (by omega) (by omega) ?_
        rw [hn, jw_bv, if_neg c19, if_neg (Int32.not_le.mpr c28)] at k
        exact k
      · refine jr_goto rfl ?_
        refine jr_iinc4 rfl rfl ?_
        refine jr_goto rfl ?_
        rw [jn_S]
        refine lp_MD_better S1 (l + 1) o _ hw hS1 hmo hV hM1 g1 hp (by omega) (by omega) ?_
        rw [hn, jw_bv, if_neg c19, if_pos (Int32.not_lt.mp c28)] at k
        exact k
    · refine jr_goto rfl ?_
      refine jr_iinc4 rfl rfl ?_
      refine jr_goto rfl ?_
      rw [jn_S]
      refine lp_MD_better S (l + 1) o _ hw hS hmo hV hM h101 hp (by omega) (by omega) ?_
      rw [hn, jw_bv, if_pos c19] at k
      exact k
termination_by 32 - l
decreasing_by all_goals omega

set_option maxHeartbeats 800000 in
set_option maxRecDepth 100000 in
theorem eS_better {d : Nat} {Q : Option jx_V → jx_H → Prop} {hm : jx_H} {b p : Nat} {V : Nat → Nat} {S : Nat → Nat → Int32} (hw : jz_W hm b) (hS : jz_S hm S) (hmo : ¬ jC hm b 0 0 = 0) (hV : ∀ q, V q < 32) (hM : ∀ j, j < 32 → S 100 j = jw_mayb hm b j) (h101 : ∀ q, q < jz_np hm b → S 101 q = nI (V q)) (hp : p < jz_np hm b) (k : ∀ S' : Nat → Nat → Int32, jz_S hm S' → (∀ j, j < 32 → S' 100 j = jw_mayb hm b j) → (∀ q, q < jz_np hm b → S' 101 q = nI (V q)) → Q (some (jv_i (nI (jw_bp hm b V p)))) (jS hm S'))  : jx_Ev jm_MD_betterVote (d + 7) 0 0 false 1 [jv_r 11 0, jv_i (nI p)] (jS hm S) Q := by
  show jx_W (jm_MD_betterVote, d + 7, 0, 0, false, 1, _) Q 0 0 0 [some (jv_r 11 0), some (jv_i (nI p)), none, none, none, none] [] _
  have hnp5 := hw.2.2.1.2.1.2
  refine jr_aload rfl rfl ?_
  refine jr_getR rfl rfl rfl rfl (Or.inl rfl) ?_
  refine jr_iload rfl rfl ?_
  refine jr_iald (len := 5) rfl rfl rfl (by omega) ?_
  rw [show jh_I (jS hm S) 101 0 p = nI (V p) from h101 p hp]
  refine jr_ist2 rfl rfl ?_
  refine jr_aload rfl rfl ?_
  refine jr_iload rfl rfl ?_
  refine jr_iload rfl rfl ?_
  refine jr_cv2 (mc' := 0) (ms' := 0) rfl jm_MD_worthBy_n jm_MD_worthBy_f rfl rfl rfl rfl rfl rfl rfl (Nat.zero_le _) (Nat.zero_le _) ?_
  refine eS_wb (V := V) hw hS hmo hV hM h101 hp (hV p) (fun S1 hS1 hM1 g1 => ?_)
  refine jr_ist3 rfl rfl ?_
  refine jr_ic rfl ?_
  refine jr_ist4 rfl rfl ?_
  exact lp_MD_better S1 0 (V p) _ hw hS1 hmo hV hM1 g1 hp (by omega) (hV p) k

theorem jw_bic {c : Bool} (h : ¬ jw_bi c = 0) : c = true := by cases c; exact absurd rfl h; rfl
theorem jw_ju2 (h : jx_H) (a b : Nat) (f g : Nat → Int32) : ju_I (ju_I h a b f) a b g = ju_I h a b g := by
  unfold ju_I
  refine congrArg (·, h.2) ?_
  funext x y
  dsimp only
  by_cases e : x = a ∧ y = b
  · rw [if_pos e, if_pos e]
  · rw [if_neg e, if_neg e, if_neg e]
theorem jw_ju0 (h : jx_H) (a b : Nat) : ju_I h a b (jh_I h a b) = h := by
  unfold ju_I
  refine Prod.ext ?_ rfl
  funext x y
  dsimp only
  by_cases e : x = a ∧ y = b
  · rw [if_pos e, e.1, e.2]; rfl
  · rw [if_neg e]
theorem jw_r106 (h : jx_H) (R : Nat → Int32) : jh_I (ju_I h 106 0 R) 106 0 = R := rfl
set_option maxHeartbeats 800000 in
set_option maxRecDepth 100000 in
theorem lp_MD_turn {d n0 : Nat} {Q : Option jx_V → jx_H → Prop} {hm : jx_H} {b t : Nat} {w : Int32} (S : Nat → Nat → Int32) (p : Nat) (V : Nat → Nat) (c : Bool) (x5 : Option jx_V) (hw : jz_W hm b) (hS : jz_S hm S) (hmo : ¬ jC hm b 0 0 = 0) (hV : ∀ q, V q < 32) (hM : ∀ j, j < 32 → S 100 j = jw_mayb hm b j) (h101 : ∀ q, q < jz_np hm b → S 101 q = nI (V q)) (hp : p ≤ jz_np hm b) (k : ∀ (S' : Nat → Nat → Int32) (y : Option jx_V), jz_S hm S' → (∀ j, j < 32 → S' 100 j = jw_mayb hm b j) → (∀ q, q < jz_np hm b → S' 101 q = nI (jw_tn hm b (jz_np hm b - p) p V q)) → jx_W (jm_MD_rest, d + 8, 0, 0, false, 1, n0) Q 0 0 51 [some (jv_r 11 0), some (jv_i w), some (jv_i (nI t)), some (jv_i (jw_bi (jw_tc hm b (jz_np hm b - p) p V c))), some (jv_i (nI (jz_np hm b))), y] [] (jS hm S'))  : jx_W (jm_MD_rest, d + 8, 0, 0, false, 1, n0) Q 0 0 24 [some (jv_r 11 0), some (jv_i w), some (jv_i (nI t)), some (jv_i (jw_bi c)), some (jv_i (nI p)), x5] [] (jS hm S) := by
  have hb2 := hw.2.1
  have hnp := hw.2.2.1.2.1
  have hnp5 := hnp.2
  refine jr_iload rfl rfl ?_
  refine jr_aload rfl rfl ?_
  refine jr_cv0 (mc' := 0) (ms' := 0) rfl jm_MD_personMany_n jm_MD_personMany_f rfl rfl rfl rfl rfl rfl rfl (Nat.zero_le _) (Nat.zero_le _) ?_
  show jx_W (jm_MD_personMany, _, _, _, _, _, _) _ 0 0 0 [some _] [] _
  refine jr_aload rfl rfl ?_
  refine jr_getR rfl rfl rfl rfl (Or.inl rfl) ?_
  refine jr_aload rfl rfl ?_
  refine jr_getI rfl rfl ?_
  refine jr_iald (len := 2) rfl rfl (jz_bank hw hS) (by omega) ?_
  refine jr_iret rfl rfl (Nat.zero_le _) (Nat.zero_le _) ?_
  rw [show jh_I (jS hm S) 67 0 b = nI (jz_np hm b) from hnp.1]
  refine jr_icmp_ge rfl (fun c27 => ?_) (fun c27 => ?_)
  · have hp2 : p = jz_np hm b := by have := jn_le (show nI (jz_np hm b) ≤ nI p from c27) (by omega) (by omega); omega
    subst hp2
    rw [Nat.sub_self] at k
    exact k S x5 hS hM h101
  · have hp1 : p < jz_np hm b := jn_nle (show ¬ nI (jz_np hm b) ≤ nI p from c27) (by omega) (by omega)
    have hn : jz_np hm b - p = (jz_np hm b - (p + 1)) + 1 := by omega
    rw [hn] at k
    rw [jw_tn, jw_tc] at k
    refine jr_aload rfl rfl ?_
    refine jr_iload rfl rfl ?_
    refine jr_cv1 (mc' := 0) (ms' := 0) rfl jm_MD_betterVote_n jm_MD_betterVote_f rfl rfl rfl rfl rfl rfl rfl (Nat.zero_le _) (Nat.zero_le _) ?_
    refine eS_better (V := V) hw hS hmo hV hM h101 hp1 (fun S1 hS1 hM1 g1 => ?_)
    refine jr_ist5 rfl rfl ?_
    refine jr_iload rfl rfl ?_
    refine jr_if_ne rfl (fun c33 => ?_) (fun c33 => ?_)
    · refine jr_ic rfl ?_
      refine jr_goto rfl ?_
      refine jr_ist3 rfl rfl ?_
      refine jr_aload rfl rfl ?_
      refine jr_getR rfl rfl rfl rfl (Or.inl rfl) ?_
      refine jr_iload rfl rfl ?_
      refine jr_iload rfl rfl ?_
      refine jr_iast (len := 5) rfl rfl rfl (by omega) ?_
      simp only [jS_101, jS_r101]
      refine jr_iinc4 rfl rfl ?_
      refine jr_goto rfl ?_
      rw [jn_S]
      rw [show (1 : Int32) = jw_bi (c || decide (¬ jw_bp hm b V p = V p)) by rw [jw_bic c33]; rfl]
      refine lp_MD_turn (fun k => if k = 101 then upd (S1 101) p (nI (jw_bp hm b V p)) else S1 k) (p + 1) (jw_stv V p (jw_bp hm b V p)) _ _ hw hS1 hmo (fun q => jw_stv_lt hV (jw_bp_lt hV) q) hM1 (fun q hq => ?_) (by omega) k
      show upd (S1 101) p (nI (jw_bp hm b V p)) q = _
      by_cases e : q = p
      · rw [e, jg_us, jw_stv_e]
      · rw [jg_un e, jw_stv_n V e]; exact g1 q hq
    · refine jr_iload rfl rfl ?_
      refine jr_aload rfl rfl ?_
      refine jr_getR rfl rfl rfl rfl (Or.inl rfl) ?_
      refine jr_iload rfl rfl ?_
      refine jr_iald (len := 5) rfl rfl rfl (by omega) ?_
      rw [show jh_I (jS hm S1) 101 0 p = nI (V p) from g1 p hp1]
      refine jr_icmp_eq rfl (fun c39 => ?_) (fun c39 => ?_)
      · refine jr_ic rfl ?_
        refine jr_ist3 rfl rfl ?_
        refine jr_aload rfl rfl ?_
        refine jr_getR rfl rfl rfl rfl (Or.inl rfl) ?_
        refine jr_iload rfl rfl ?_
        refine jr_iload rfl rfl ?_
        refine jr_iast (len := 5) rfl rfl rfl (by omega) ?_
        simp only [jS_101, jS_r101]
        refine jr_iinc4 rfl rfl ?_
        refine jr_goto rfl ?_
        rw [jn_S]
        rw [show (0 : Int32) = jw_bi (c || decide (¬ jw_bp hm b V p = V p)) by rw [decide_eq_false (show ¬ ¬ jw_bp hm b V p = V p from fun z => z (jn_eq (show nI (jw_bp hm b V p) = nI (V p) from c39) (by have := @jw_bp_lt hm b V p hV; omega) (by have := hV p; omega))), jw_biz c33]; rfl]
        refine lp_MD_turn (fun k => if k = 101 then upd (S1 101) p (nI (jw_bp hm b V p)) else S1 k) (p + 1) (jw_stv V p (jw_bp hm b V p)) _ _ hw hS1 hmo (fun q => jw_stv_lt hV (jw_bp_lt hV) q) hM1 (fun q hq => ?_) (by omega) k
        show upd (S1 101) p (nI (jw_bp hm b V p)) q = _
        by_cases e : q = p
        · rw [e, jg_us, jw_stv_e]
        · rw [jg_un e, jw_stv_n V e]; exact g1 q hq
      · refine jr_ic rfl ?_
        refine jr_goto rfl ?_
        refine jr_ist3 rfl rfl ?_
        refine jr_aload rfl rfl ?_
        refine jr_getR rfl rfl rfl rfl (Or.inl rfl) ?_
        refine jr_iload rfl rfl ?_
        refine jr_iload rfl rfl ?_
        refine jr_iast (len := 5) rfl rfl rfl (by omega) ?_
        simp only [jS_101, jS_r101]
        refine jr_iinc4 rfl rfl ?_
        refine jr_goto rfl ?_
        rw [jn_S]
        rw [show (1 : Int32) = jw_bi (c || decide (¬ jw_bp hm b V p = V p)) by rw [decide_eq_true (show ¬ jw_bp hm b V p = V p from fun z => c39 (congrArg nI z)), Bool.or_true]; rfl]
        refine lp_MD_turn (fun k => if k = 101 then upd (S1 101) p (nI (jw_bp hm b V p)) else S1 k) (p + 1) (jw_stv V p (jw_bp hm b V p)) _ _ hw hS1 hmo (fun q => jw_stv_lt hV (jw_bp_lt hV) q) hM1 (fun q hq => ?_) (by omega) k
        show upd (S1 101) p (nI (jw_bp hm b V p)) q = _
        by_cases e : q = p
        · rw [e, jg_us, jw_stv_e]
        · rw [jg_un e, jw_stv_n V e]; exact g1 q hq
termination_by jz_np hm b - p
decreasing_by all_goals omega

set_option maxHeartbeats 800000 in
set_option maxRecDepth 100000 in
theorem lp_MD_rest {d n0 : Nat} {Q : Option jx_V → jx_H → Prop} {hm : jx_H} {b : Nat} {w : Int32} (S : Nat → Nat → Int32) (t : Nat) (V : Nat → Nat) (x3 x4 x5 : Option jx_V) (hw : jz_W hm b) (hS : jz_S hm S) (hmo : ¬ jC hm b 0 0 = 0) (hV : ∀ q, V q < 32) (hM : ∀ j, j < 32 → S 100 j = jw_mayb hm b j) (h101 : ∀ q, q < jz_np hm b → S 101 q = nI (V q)) (ht : t ≤ 41) (k0 : jw_rs hm b (41 - t) t V = none → ∀ S' : Nat → Nat → Int32, jz_S hm S' → Q (some (jv_i (-1))) (jS hm S')) (k1 : ∀ t' V', jw_rs hm b (41 - t) t V = some (t', V') → ∀ (S' : Nat → Nat → Int32) (y3 : Int32) (y4 y5 : Option jx_V), jz_S hm S' → (∀ j, j < 32 → S' 100 j = jw_mayb hm b j) → (∀ q, q < jz_np hm b → S' 101 q = nI (V' q)) → jx_W (jm_MD_rest, d + 8, 0, 0, false, 1, n0) Q 0 0 54 [some (jv_r 11 0), some (jv_i w), some (jv_i (nI t')), some (jv_i y3), y4, y5] [] (jS hm S'))  : jx_W (jm_MD_rest, d + 8, 0, 0, false, 1, n0) Q 0 0 17 [some (jv_r 11 0), some (jv_i w), some (jv_i (nI t)), x3, x4, x5] [] (jS hm S) := by
  refine jr_iload rfl rfl ?_
  refine jr_ic rfl ?_
  refine jr_icmp_gt rfl (fun c19 => ?_) (fun c19 => ?_)
  · refine jr_ic rfl ?_
    refine jr_iret rfl rfl (Nat.zero_le _) (Nat.zero_le _) ?_
    have ht2 : 41 - t = 0 := by have := jn_lt (show nI 40 < nI t from c19) (by omega) (by omega); omega
    rw [ht2] at k0
    exact k0 rfl S hS
  · have ht1 : t ≤ 40 := jn_nlt (show ¬ nI 40 < nI t from c19) (by omega) (by omega)
    have hn : 41 - t = (41 - (t + 1)) + 1 := by omega
    rw [hn] at k0 k1
    rw [jw_rs] at k0
    simp only [jw_rs] at k1
    refine jr_ic rfl ?_
    refine jr_ist3 rfl rfl ?_
    refine jr_ic rfl ?_
    refine jr_ist4 rfl rfl ?_
    refine lp_MD_turn S 0 V false _ hw hS hmo hV hM h101 (Nat.zero_le _) (fun S1 y hS1 hM1 g1 => ?_)
    rw [Nat.sub_zero] at g1 ⊢
    refine jr_iload rfl rfl ?_
    refine jr_if_eq rfl (fun c52 => ?_) (fun c52 => ?_)
    · exact k1 t _ (if_pos (jw_biz c52)) S1 _ _ _ hS1 hM1 g1
    · refine jr_goto rfl ?_
      refine jr_iinc2 rfl rfl ?_
      refine jr_goto rfl ?_
      rw [jn_S]
      rw [if_neg (jw_bin c52)] at k0
      simp only [if_neg (jw_bin c52)] at k1
      exact lp_MD_rest S1 (t + 1) _ _ _ _ hw hS1 hmo (jw_tn_lt _ _ _ hV) hM1 g1 (by omega) k0 k1
termination_by 41 - t
decreasing_by all_goals omega

set_option maxHeartbeats 800000 in
set_option maxRecDepth 100000 in
theorem lp_MD_lay {d n0 : Nat} {Q : Option jx_V → jx_H → Prop} {hm : jx_H} {b t : Nat} {w : Int32} {V : Nat → Nat} {S : Nat → Nat → Int32} {y3 : Int32} {y5 : Option jx_V} (R : Nat → Int32) (p : Nat) (hw : jz_W hm b) (hS : jz_S hm S) (h101 : ∀ q, q < jz_np hm b → S 101 q = nI (V q)) (hp : p ≤ jz_np hm b) (hR : ∀ q, q < p → R q = nI (V q)) (k : ∀ R' : Nat → Int32, (∀ q, q < jz_np hm b → R' q = nI (V q)) → jx_W (jm_MD_rest, d + 8, 0, 0, false, 1, n0) Q 0 0 70 [some (jv_r 11 0), some (jv_i w), some (jv_i (nI t)), some (jv_i y3), some (jv_i (nI (jz_np hm b))), y5] [] (ju_I (jS hm S) 106 0 R'))  : jx_W (jm_MD_rest, d + 8, 0, 0, false, 1, n0) Q 0 0 56 [some (jv_r 11 0), some (jv_i w), some (jv_i (nI t)), some (jv_i y3), some (jv_i (nI p)), y5] [] (ju_I (jS hm S) 106 0 R) := by
  have hb2 := hw.2.1
  have hnp := hw.2.2.1.2.1
  have hnp5 := hnp.2
  refine jr_iload rfl rfl ?_
  refine jr_aload rfl rfl ?_
  refine jr_cv0 (mc' := 0) (ms' := 0) rfl jm_MD_personMany_n jm_MD_personMany_f rfl rfl rfl rfl rfl rfl rfl (Nat.zero_le _) (Nat.zero_le _) ?_
  show jx_W (jm_MD_personMany, _, _, _, _, _, _) _ 0 0 0 [some _] [] _
  refine jr_aload rfl rfl ?_
  refine jr_getR rfl rfl rfl rfl (Or.inl rfl) ?_
  refine jr_aload rfl rfl ?_
  refine jr_getI rfl rfl ?_
  refine jr_iald (len := 2) rfl rfl (jz_bank hw hS) (by omega) ?_
  refine jr_iret rfl rfl (Nat.zero_le _) (Nat.zero_le _) ?_
  rw [show jh_I (ju_I (jS hm S) 106 0 R) 67 0 b = nI (jz_np hm b) from hnp.1]
  refine jr_icmp_ge rfl (fun c59 => ?_) (fun c59 => ?_)
  · have hp2 : p = jz_np hm b := by have := jn_le (show nI (jz_np hm b) ≤ nI p from c59) (by omega) (by omega); omega
    subst hp2
    exact k R hR
  · have hp1 : p < jz_np hm b := jn_nle (show ¬ nI (jz_np hm b) ≤ nI p from c59) (by omega) (by omega)
    refine jr_aload rfl rfl ?_
    refine jr_getR rfl rfl rfl rfl (Or.inl rfl) ?_
    refine jr_iload rfl rfl ?_
    refine jr_aload rfl rfl ?_
    refine jr_getR rfl rfl rfl rfl (Or.inl rfl) ?_
    refine jr_iload rfl rfl ?_
    refine jr_iald (len := 5) rfl rfl rfl (by omega) ?_
    rw [show jh_I (ju_I (jS hm S) 106 0 R) 101 0 p = nI (V p) from h101 p hp1]
    refine jr_iast (len := 8) rfl rfl rfl (by omega) ?_
    simp only [jw_ju2, jw_r106]
    refine jr_iinc4 rfl rfl ?_
    refine jr_goto rfl ?_
    rw [jn_S]
    refine lp_MD_lay _ (p + 1) hw hS h101 (by omega) (fun q hq => ?_) k
    by_cases e : q = p
    · rw [e, jg_us]
    · rw [jg_un e]; exact hR q (by omega)
termination_by jz_np hm b - p
decreasing_by all_goals omega

theorem jw_lay_S (hm : jx_H) (S : Nat → Nat → Int32) (R G W : Nat → Int32) : ju_I (ju_I (jS hm S) 106 0 R) 11 0 W = jS (ju_I (ju_I hm 106 0 R) 11 0 G) (fun k => if k = 11 then W else S k) := by
  unfold jS ju_I
  refine congrArg (·, hm.2) ?_
  funext x y
  dsimp only
  by_cases e : x = 11 ∧ y = 0
  · obtain ⟨rfl, rfl⟩ := e; rfl
  · rw [if_neg e]
    by_cases e2 : x = 106 ∧ y = 0
    · obtain ⟨rfl, rfl⟩ := e2; rfl
    · rw [if_neg e2]
      by_cases e3 : jk_s x = true ∧ y = 0
      · rw [if_pos e3, if_pos e3, if_neg (fun z => e ⟨z, e3.2⟩)]
      · rw [if_neg e3, if_neg e3, if_neg e, if_neg e2]
def jw_lyM (hm : jx_H) (n : Nat) (R : Nat → Int32) : jx_H := ju_I (ju_I hm 106 0 R) 11 0 (upd (jh_I hm 11 0) 65 (nI n))
def jw_lyC (hc : jx_H) (n : Nat) (R : Nat → Int32) : jx_H := ju_I (ju_I hc 10 0 (upd (jh_I hc 10 0) 13 (nI n))) 63 0 R
theorem jw_lyM_S {hm : jx_H} {S : Nat → Nat → Int32} {n : Nat} {R : Nat → Int32} (hS : jz_S hm S) : jz_S (jw_lyM hm n R) (fun k => if k = 11 then upd (S 11) 65 (nI n) else S k) := by
  intro f hf
  show upd (S 11) 65 (nI n) f = upd (jh_I hm 11 0) 65 (nI n) f
  by_cases e : f = 65
  · rw [e, jg_us, jg_us]
  · rw [jg_un e, jg_un e]; exact hS f hf
theorem jw_lyM_W {hm : jx_H} {b n : Nat} {R : Nat → Int32} (hw : jz_W hm b) : jz_W (jw_lyM hm n R) b := ⟨hw.1, hw.2.1, hw.2.2.1, hw.2.2.2⟩
theorem jN_ly (hm : jx_H) (n : Nat) (R : Nat → Int32) : jN (jw_lyM hm n R) = jN hm := by
  unfold jN jw_lyM ju_I
  refine Prod.ext ?_ rfl
  funext x y
  dsimp only
  split
  · rename_i e
    have h1 := e.1
    unfold jk_n at h1
    simp only [Bool.and_eq_true, Nat.ble_eq] at h1
    rw [if_neg (by omega), if_neg (by omega)]
  · rfl
theorem jz_Rel_ly {hc hm : jx_H} {n : Nat} {R R' : Nat → Int32} (h : jz_Rel hc hm) (hn : n ≤ 5) (hR : ∀ j, j < n → R j = R' j) : jz_Rel (jw_lyC hc n R) (jw_lyM hm n R') := by
  obtain ⟨b, r, ⟨c1, c2, c3, c4, c5, c6, c7, c8⟩, ⟨s, t1, t2, t3⟩, ⟨f1, f2⟩, ⟨s2, l1, l2, l3, l4⟩, ⟨t, i1, i2, i3⟩, ⟨m, e1, e2, e3, e4⟩, hb, ⟨n2, u, a1, a2, a3, a4, a5, σ, g1, g2, g3, g4, g5, g6⟩, hwo⟩ := h
  exact ⟨b, r, ⟨jw_lyM_W c1, c2, c3, c4, c5, c6, c7, c8⟩, ⟨s, t1, t2, t3⟩, ⟨f1, f2⟩, ⟨n, hn, rfl, rfl, hR⟩, ⟨t, i1, i2, i3⟩, ⟨m, e1, e2, e3, e4⟩, hb, ⟨n2, u, a1, a2, a3, a4, a5, σ, g1, g2, g3, g4, g5, fun j hj => jz_act_t (jN_ly hm n R') (g6 j hj)⟩, hwo⟩
