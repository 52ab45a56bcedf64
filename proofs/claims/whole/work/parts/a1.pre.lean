theorem jb8 (x : Int32) : x.toInt8.toInt32 &&& 255 = x &&& 255 := by
  apply b_ext
  intro i hi
  rw [b_and, b_and, b_255]
  by_cases h : i < 8
  · have : bt x.toInt8.toInt32 i = bt x i := by
      unfold bt
      rw [Int8.toBitVec_toInt32, Int32.toBitVec_toInt8, BitVec.getLsbD_signExtend, if_pos h, BitVec.getLsbD_signExtend, if_pos hi, decide_eq_true h, decide_eq_true hi, Bool.true_and, Bool.true_and]
    rw [this]
  · rw [decide_eq_false h, Bool.and_false, Bool.and_false]
theorem jx_top {T : jx_P} {Q : Option jx_V → jx_H → Prop} {kc ks n : Nat} {ls : List (Option jx_V)} {st : List jx_V} {h : jx_H} {x y : Int32} (e : x = y) (k : jx_W T Q kc ks n ls (jv_i y :: st) h) : jx_W T Q kc ks n ls (jv_i x :: st) h := by
  rw [e]
  exact k
/-- one row's change beneath another's -/
theorem jq_c {a c : Nat} (h : jx_H) (F G : Nat → Int32) (k : Nat) (x : Int32) (e : a ≠ c) : ju_I (ju_I (ju_I h a 0 F) c 0 G) a 0 (upd (jh_I (ju_I (ju_I h a 0 F) c 0 G) a 0) k x) = ju_I (ju_I h a 0 (upd F k x)) c 0 G := by
  rw [show jh_I (ju_I (ju_I h a 0 F) c 0 G) a 0 = F from (if_neg (fun z => e z.1)).trans (jg_II h a 0 F)]
  unfold ju_I
  refine congrArg (·, h.2) ?_
  funext u v
  dsimp only
  by_cases e1 : u = a ∧ v = 0
  · rw [if_pos e1, if_neg (fun z => e (e1.1.symm.trans z.1)), if_pos e1]
  · rw [if_neg e1, if_neg e1]
    split <;> rfl
set_option maxHeartbeats 800000 in
set_option maxRecDepth 100000 in
theorem lp_cp {d n0 : Nat} {Q : Option jx_V → jx_H → Prop} {h : jx_H} {s : Nat} (k : Nat) (F : Nat → Int32) (hS : jh_I h 11 0 3 = nI s) (hs : s ≤ 1700) (hk : k ≤ s) (hF : ∀ j, j < k → F j &&& 255 = jh_I h 64 0 j &&& 255) (kk : ∀ (F' : Nat → Int32) (y : jx_V), (∀ j, j < s → F' j &&& 255 = jh_I h 64 0 j &&& 255) → jx_W (jm_MD_republic, d + 21, 0, 0, false, 1, n0) Q 0 0 26 [some (jv_r 11 0), some y] [] (ju_I h 65 0 F'))  : jx_W (jm_MD_republic, d + 21, 0, 0, false, 1, n0) Q 0 0 12 [some (jv_r 11 0), some (jv_i (nI k))] [] (ju_I h 65 0 F) := by
  refine jr_iload rfl rfl ?_
  refine jr_aload rfl rfl ?_
  refine jr_getI rfl rfl ?_
  rw [show jh_I (ju_I h 65 0 F) 11 0 3 = nI s from hS]
  refine jr_icmp_ge rfl (fun c15 => ?_) (fun c15 => ?_)
  · exact kk F _ (fun j hj => hF j (by have := jn_le (show nI s ≤ nI k from c15) (by omega) (by omega); omega))
  · have hk1 : k < s := jn_nle (show ¬ nI s ≤ nI k from c15) (by omega) (by omega)
    refine jr_aload rfl rfl ?_
    refine jr_getR rfl rfl rfl rfl (Or.inl rfl) ?_
    refine jr_iload rfl rfl ?_
    refine jr_aload rfl rfl ?_
    refine jr_getR rfl rfl rfl rfl (Or.inl rfl) ?_
    refine jr_iload rfl rfl ?_
    refine jr_bald (len := 1720) rfl rfl rfl (by omega) ?_
    refine jr_bast (len := 1700) rfl rfl rfl (by omega) ?_
    rw [jq_up]
    refine jr_iinc1 rfl rfl ?_
    refine jr_goto rfl ?_
    rw [jn_S]
    exact lp_cp (k + 1) (upd F k _) hS hs (by omega) (fun j hj => by
      by_cases e : j = k
      · subst e
        rw [jg_us]
        exact jb8 _
      · rw [jg_un e]
        exact hF j (by omega)) kk
termination_by s - k
decreasing_by all_goals omega

theorem lp_cp0 {d n0 : Nat} {Q : Option jx_V → jx_H → Prop} {h : jx_H} {s : Nat} (hS : jh_I h 11 0 3 = nI s) (hs : s ≤ 1700) (kk : ∀ (F' : Nat → Int32) (y : jx_V), (∀ j, j < s → F' j &&& 255 = jh_I h 64 0 j &&& 255) → jx_W (jm_MD_republic, d + 21, 0, 0, false, 1, n0) Q 0 0 26 [some (jv_r 11 0), some y] [] (ju_I h 65 0 F')) : jx_W (jm_MD_republic, d + 21, 0, 0, false, 1, n0) Q 0 0 12 [some (jv_r 11 0), some (jv_i (nI 0))] [] h := by
  have := lp_cp (d := d) (n0 := n0) (Q := Q) (h := h) 0 (jh_I h 65 0) hS hs (Nat.zero_le _) (fun j hj => absurd hj (Nat.not_lt_zero _)) kk
  rw [jg_self] at this
  exact this
/-- an empty bank of the model -/
def jCBv (h : jx_H) (β : Nat) : Prop := jh_I h 66 0 β = 0 ∧ jh_I h 67 0 β = 0 ∧ jh_I h 68 0 β = 0 ∧ jh_I h 69 0 β = 0 ∧ jh_I h 85 0 β = 0 ∧ jh_I h 86 0 β = 0 ∧ jh_I h 87 0 β = 0 ∧ jh_I h 88 0 β = 0 ∧ jh_I h 80 0 β = 0 ∧ jh_I h 81 0 β = 7 ∧ ∀ w, w < 6 → jh_I h 89 0 (6 * β + w) = 0
theorem jMF_45 {β : Nat} {x : Int32} {h0 h : jx_H} (f : jMF β h0 h) : jMF β h0 (ju_I h 11 0 (upd (jh_I h 11 0) 45 x)) := ⟨fun a b z1 z2 => (if_neg (fun y => z1 y.1)).trans (f.1 a b z1 z2), fun a q z1 z2 z3 => (congrFun (if_neg (fun y => by omega)) q).trans (f.2.1 a q z1 z2 z3), f.2.2.1, f.2.2.2.1, f.2.2.2.2.1, fun y hy => (congrFun (jg_II h 11 0 (upd (jh_I h 11 0) 45 x)) y).trans ((jg_un (by omega)).trans (f.2.2.2.2.2 y hy))⟩
set_option maxHeartbeats 800000 in
set_option maxRecDepth 100000 in
theorem eM_clearBank0 {d : Nat} {h : jx_H} {Q : Option jx_V → jx_H → Prop} {G F : Nat → Int32} (k : ∀ h', jMF 0 (ju_I (ju_I h 11 0 (upd G 44 0)) 65 0 F) h' → (∀ f, f ≠ 45 → jh_I h' 11 0 f = upd G 44 0 f) → jh_I h' 11 0 45 = nI (620 * 0) → jh_I h' 65 0 = F → jCBv h' 0 → Q none h')  : jx_Ev jm_MD_clearBank (d + 1) 0 0 false 1 [jv_r 11 0] (ju_I (ju_I h 11 0 (upd G 44 0)) 65 0 F) Q := by
  show jx_W (jm_MD_clearBank, d + 1, 0, 0, false, 1, _) Q 0 0 0 [some (jv_r 11 0), none] [] _
  refine jr_aload rfl rfl ?_
  refine jr_getR rfl rfl rfl rfl (Or.inl rfl) ?_
  refine jr_aload rfl rfl ?_
  refine jr_getI rfl rfl ?_
  refine jx_top (show _ = (0 : Int32) from rfl) ?_
  refine jr_ic rfl ?_
  refine jr_iast (len := 2) rfl rfl (show _ = nI 0 from rfl) (by decide) ?_
  rw [show jh_I (ju_I (ju_I h 11 0 (upd G 44 0)) 65 0 F) 66 0 = jh_I h 66 0 from rfl]
  refine jr_aload rfl rfl ?_
  refine jr_getR rfl rfl rfl rfl (Or.inl rfl) ?_
  refine jr_aload rfl rfl ?_
  refine jr_getI rfl rfl ?_
  refine jx_top (show _ = (0 : Int32) from rfl) ?_
  refine jr_ic rfl ?_
  refine jr_iast (len := 2) rfl rfl (show _ = nI 0 from rfl) (by decide) ?_
  rw [show jh_I (ju_I (ju_I (ju_I h 11 0 (upd G 44 0)) 65 0 F) 66 0 (upd (jh_I h 66 0) 0 0)) 67 0 = jh_I h 67 0 from rfl]
  refine jr_aload rfl rfl ?_
  refine jr_getR rfl rfl rfl rfl (Or.inl rfl) ?_
  refine jr_aload rfl rfl ?_
  refine jr_getI rfl rfl ?_
  refine jx_top (show _ = (0 : Int32) from rfl) ?_
  refine jr_ic rfl ?_
  refine jr_iast (len := 2) rfl rfl (show _ = nI 0 from rfl) (by decide) ?_
  rw [show jh_I (ju_I (ju_I (ju_I (ju_I h 11 0 (upd G 44 0)) 65 0 F) 66 0 (upd (jh_I h 66 0) 0 0)) 67 0 (upd (jh_I h 67 0) 0 0)) 68 0 = jh_I h 68 0 from rfl]
  refine jr_aload rfl rfl ?_
  refine jr_getR rfl rfl rfl rfl (Or.inl rfl) ?_
  refine jr_aload rfl rfl ?_
  refine jr_getI rfl rfl ?_
  refine jx_top (show _ = (0 : Int32) from rfl) ?_
  refine jr_ic rfl ?_
  refine jr_iast (len := 2) rfl rfl (show _ = nI 0 from rfl) (by decide) ?_
  rw [show jh_I (ju_I (ju_I (ju_I (ju_I (ju_I h 11 0 (upd G 44 0)) 65 0 F) 66 0 (upd (jh_I h 66 0) 0 0)) 67 0 (upd (jh_I h 67 0) 0 0)) 68 0 (upd (jh_I h 68 0) 0 0)) 69 0 = jh_I h 69 0 from rfl]
  refine jr_aload rfl rfl ?_
  refine jr_getR rfl rfl rfl rfl (Or.inl rfl) ?_
  refine jr_aload rfl rfl ?_
  refine jr_getI rfl rfl ?_
  refine jx_top (show _ = (0 : Int32) from rfl) ?_
  refine jr_ic rfl ?_
  refine jr_zast (len := 2) rfl rfl (show _ = nI 0 from rfl) (by decide) ?_
  rw [show ((0 : Int32) &&& 1) = 0 from rfl]
  rw [show jh_I (ju_I (ju_I (ju_I (ju_I (ju_I (ju_I h 11 0 (upd G 44 0)) 65 0 F) 66 0 (upd (jh_I h 66 0) 0 0)) 67 0 (upd (jh_I h 67 0) 0 0)) 68 0 (upd (jh_I h 68 0) 0 0)) 69 0 (upd (jh_I h 69 0) 0 0)) 85 0 = jh_I h 85 0 from rfl]
  refine jr_aload rfl rfl ?_
  refine jr_getR rfl rfl rfl rfl (Or.inl rfl) ?_
  refine jr_aload rfl rfl ?_
  refine jr_getI rfl rfl ?_
  refine jx_top (show _ = (0 : Int32) from rfl) ?_
  refine jr_ic rfl ?_
  refine jr_zast (len := 2) rfl rfl (show _ = nI 0 from rfl) (by decide) ?_
  rw [show ((0 : Int32) &&& 1) = 0 from rfl]
  rw [show jh_I (ju_I (ju_I (ju_I (ju_I (ju_I (ju_I (ju_I h 11 0 (upd G 44 0)) 65 0 F) 66 0 (upd (jh_I h 66 0) 0 0)) 67 0 (upd (jh_I h 67 0) 0 0)) 68 0 (upd (jh_I h 68 0) 0 0)) 69 0 (upd (jh_I h 69 0) 0 0)) 85 0 (upd (jh_I h 85 0) 0 0)) 86 0 = jh_I h 86 0 from rfl]
  refine jr_aload rfl rfl ?_
  refine jr_getR rfl rfl rfl rfl (Or.inl rfl) ?_
  refine jr_aload rfl rfl ?_
  refine jr_getI rfl rfl ?_
  refine jx_top (show _ = (0 : Int32) from rfl) ?_
  refine jr_ic rfl ?_
  refine jr_zast (len := 2) rfl rfl (show _ = nI 0 from rfl) (by decide) ?_
  rw [show ((0 : Int32) &&& 1) = 0 from rfl]
  rw [show jh_I (ju_I (ju_I (ju_I (ju_I (ju_I (ju_I (ju_I (ju_I h 11 0 (upd G 44 0)) 65 0 F) 66 0 (upd (jh_I h 66 0) 0 0)) 67 0 (upd (jh_I h 67 0) 0 0)) 68 0 (upd (jh_I h 68 0) 0 0)) 69 0 (upd (jh_I h 69 0) 0 0)) 85 0 (upd (jh_I h 85 0) 0 0)) 86 0 (upd (jh_I h 86 0) 0 0)) 87 0 = jh_I h 87 0 from rfl]
  refine jr_aload rfl rfl ?_
  refine jr_getR rfl rfl rfl rfl (Or.inl rfl) ?_
  refine jr_aload rfl rfl ?_
  refine jr_getI rfl rfl ?_
  refine jx_top (show _ = (0 : Int32) from rfl) ?_
  refine jr_ic rfl ?_
  refine jr_zast (len := 2) rfl rfl (show _ = nI 0 from rfl) (by decide) ?_
  rw [show ((0 : Int32) &&& 1) = 0 from rfl]
  rw [show jh_I (ju_I (ju_I (ju_I (ju_I (ju_I (ju_I (ju_I (ju_I (ju_I h 11 0 (upd G 44 0)) 65 0 F) 66 0 (upd (jh_I h 66 0) 0 0)) 67 0 (upd (jh_I h 67 0) 0 0)) 68 0 (upd (jh_I h 68 0) 0 0)) 69 0 (upd (jh_I h 69 0) 0 0)) 85 0 (upd (jh_I h 85 0) 0 0)) 86 0 (upd (jh_I h 86 0) 0 0)) 87 0 (upd (jh_I h 87 0) 0 0)) 88 0 = jh_I h 88 0 from rfl]
  refine jr_aload rfl rfl ?_
  refine jr_getR rfl rfl rfl rfl (Or.inl rfl) ?_
  refine jr_aload rfl rfl ?_
  refine jr_getI rfl rfl ?_
  refine jx_top (show _ = (0 : Int32) from rfl) ?_
  refine jr_ic rfl ?_
  refine jr_iast (len := 2) rfl rfl (show _ = nI 0 from rfl) (by decide) ?_
  rw [show jh_I (ju_I (ju_I (ju_I (ju_I (ju_I (ju_I (ju_I (ju_I (ju_I (ju_I h 11 0 (upd G 44 0)) 65 0 F) 66 0 (upd (jh_I h 66 0) 0 0)) 67 0 (upd (jh_I h 67 0) 0 0)) 68 0 (upd (jh_I h 68 0) 0 0)) 69 0 (upd (jh_I h 69 0) 0 0)) 85 0 (upd (jh_I h 85 0) 0 0)) 86 0 (upd (jh_I h 86 0) 0 0)) 87 0 (upd (jh_I h 87 0) 0 0)) 88 0 (upd (jh_I h 88 0) 0 0)) 80 0 = jh_I h 80 0 from rfl]
  refine jr_aload rfl rfl ?_
  refine jr_getR rfl rfl rfl rfl (Or.inl rfl) ?_
  refine jr_aload rfl rfl ?_
  refine jr_getI rfl rfl ?_
  refine jx_top (show _ = (0 : Int32) from rfl) ?_
  refine jr_ic rfl ?_
  refine jr_iast (len := 2) rfl rfl (show _ = nI 0 from rfl) (by decide) ?_
  rw [show jh_I (ju_I (ju_I (ju_I (ju_I (ju_I (ju_I (ju_I (ju_I (ju_I (ju_I (ju_I h 11 0 (upd G 44 0)) 65 0 F) 66 0 (upd (jh_I h 66 0) 0 0)) 67 0 (upd (jh_I h 67 0) 0 0)) 68 0 (upd (jh_I h 68 0) 0 0)) 69 0 (upd (jh_I h 69 0) 0 0)) 85 0 (upd (jh_I h 85 0) 0 0)) 86 0 (upd (jh_I h 86 0) 0 0)) 87 0 (upd (jh_I h 87 0) 0 0)) 88 0 (upd (jh_I h 88 0) 0 0)) 80 0 (upd (jh_I h 80 0) 0 0)) 81 0 = jh_I h 81 0 from rfl]
  refine jr_aload rfl rfl ?_
  refine jr_ic rfl ?_
  refine jr_aload rfl rfl ?_
  refine jr_getI rfl rfl ?_
  refine jx_top (show _ = (0 : Int32) from rfl) ?_
  refine jr_imul rfl ?_
  refine jr_putI rfl rfl ?_
  rw [show jh_I (ju_I (ju_I (ju_I (ju_I (ju_I (ju_I (ju_I (ju_I (ju_I (ju_I (ju_I (ju_I h 11 0 (upd G 44 0)) 65 0 F) 66 0 (upd (jh_I h 66 0) 0 0)) 67 0 (upd (jh_I h 67 0) 0 0)) 68 0 (upd (jh_I h 68 0) 0 0)) 69 0 (upd (jh_I h 69 0) 0 0)) 85 0 (upd (jh_I h 85 0) 0 0)) 86 0 (upd (jh_I h 86 0) 0 0)) 87 0 (upd (jh_I h 87 0) 0 0)) 88 0 (upd (jh_I h 88 0) 0 0)) 80 0 (upd (jh_I h 80 0) 0 0)) 81 0 (upd (jh_I h 81 0) 0 7)) 11 0 = upd G 44 0 from rfl]
  refine jr_ic rfl ?_
  refine jr_aload rfl rfl ?_
  refine jr_getI rfl rfl ?_
  refine jx_top (show _ = (0 : Int32) from rfl) ?_
  refine jr_imul rfl ?_
  refine jr_ist1 rfl rfl ?_
  refine jr_iload rfl rfl ?_
  refine jr_ic rfl ?_
  refine jr_aload rfl rfl ?_
  refine jr_getI rfl rfl ?_
  refine jx_top (show _ = (0 : Int32) from rfl) ?_
  refine jr_imul rfl ?_
  refine jr_ic rfl ?_
  refine jr_iadd rfl ?_
  refine jr_icmp_ge rfl (fun z => absurd z (by decide)) (fun _ => ?_)
  refine jr_aload rfl rfl ?_
  refine jr_getR rfl rfl rfl rfl (Or.inl rfl) ?_
  refine jr_iload rfl rfl ?_
  refine jr_ic rfl ?_
  refine jr_zast (len := 12) rfl rfl (show _ = nI 0 from rfl) (by decide) ?_
  rw [show ((0 : Int32) &&& 1) = 0 from rfl]
  rw [show jh_I (ju_I (ju_I (ju_I (ju_I (ju_I (ju_I (ju_I (ju_I (ju_I (ju_I (ju_I (ju_I (ju_I h 11 0 (upd G 44 0)) 65 0 F) 66 0 (upd (jh_I h 66 0) 0 0)) 67 0 (upd (jh_I h 67 0) 0 0)) 68 0 (upd (jh_I h 68 0) 0 0)) 69 0 (upd (jh_I h 69 0) 0 0)) 85 0 (upd (jh_I h 85 0) 0 0)) 86 0 (upd (jh_I h 86 0) 0 0)) 87 0 (upd (jh_I h 87 0) 0 0)) 88 0 (upd (jh_I h 88 0) 0 0)) 80 0 (upd (jh_I h 80 0) 0 0)) 81 0 (upd (jh_I h 81 0) 0 7)) 11 0 (upd (upd G 44 0) 45 (620 * 0))) 89 0 = jh_I h 89 0 from rfl]
  refine jr_iinc1 rfl rfl ?_
  refine jr_goto rfl ?_
  refine jr_iload rfl rfl ?_
  refine jr_ic rfl ?_
  refine jr_aload rfl rfl ?_
  refine jr_getI rfl rfl ?_
  refine jx_top (show _ = (0 : Int32) from rfl) ?_
  refine jr_imul rfl ?_
  refine jr_ic rfl ?_
  refine jr_iadd rfl ?_
  refine jr_icmp_ge rfl (fun z => absurd z (by decide)) (fun _ => ?_)
  refine jr_aload rfl rfl ?_
  refine jr_getR rfl rfl rfl rfl (Or.inl rfl) ?_
  refine jr_iload rfl rfl ?_
  refine jr_ic rfl ?_
  refine jr_zast (len := 12) rfl rfl (show _ = nI 1 from rfl) (by decide) ?_
  rw [show ((0 : Int32) &&& 1) = 0 from rfl]
  rw [jq_up]
  refine jr_iinc1 rfl rfl ?_
  refine jr_goto rfl ?_
  refine jr_iload rfl rfl ?_
  refine jr_ic rfl ?_
  refine jr_aload rfl rfl ?_
  refine jr_getI rfl rfl ?_
  refine jx_top (show _ = (0 : Int32) from rfl) ?_
  refine jr_imul rfl ?_
  refine jr_ic rfl ?_
  refine jr_iadd rfl ?_
  refine jr_icmp_ge rfl (fun z => absurd z (by decide)) (fun _ => ?_)
  refine jr_aload rfl rfl ?_
  refine jr_getR rfl rfl rfl rfl (Or.inl rfl) ?_
  refine jr_iload rfl rfl ?_
  refine jr_ic rfl ?_
  refine jr_zast (len := 12) rfl rfl (show _ = nI 2 from rfl) (by decide) ?_
  rw [show ((0 : Int32) &&& 1) = 0 from rfl]
  rw [jq_up]
  refine jr_iinc1 rfl rfl ?_
  refine jr_goto rfl ?_
  refine jr_iload rfl rfl ?_
  refine jr_ic rfl ?_
  refine jr_aload rfl rfl ?_
  refine jr_getI rfl rfl ?_
  refine jx_top (show _ = (0 : Int32) from rfl) ?_
  refine jr_imul rfl ?_
  refine jr_ic rfl ?_
  refine jr_iadd rfl ?_
  refine jr_icmp_ge rfl (fun z => absurd z (by decide)) (fun _ => ?_)
  refine jr_aload rfl rfl ?_
  refine jr_getR rfl rfl rfl rfl (Or.inl rfl) ?_
  refine jr_iload rfl rfl ?_
  refine jr_ic rfl ?_
  refine jr_zast (len := 12) rfl rfl (show _ = nI 3 from rfl) (by decide) ?_
  rw [show ((0 : Int32) &&& 1) = 0 from rfl]
  rw [jq_up]
  refine jr_iinc1 rfl rfl ?_
  refine jr_goto rfl ?_
  refine jr_iload rfl rfl ?_
  refine jr_ic rfl ?_
  refine jr_aload rfl rfl ?_
  refine jr_getI rfl rfl ?_
  refine jx_top (show _ = (0 : Int32) from rfl) ?_
  refine jr_imul rfl ?_
  refine jr_ic rfl ?_
  refine jr_iadd rfl ?_
  refine jr_icmp_ge rfl (fun z => absurd z (by decide)) (fun _ => ?_)
  refine jr_aload rfl rfl ?_
  refine jr_getR rfl rfl rfl rfl (Or.inl rfl) ?_
  refine jr_iload rfl rfl ?_
  refine jr_ic rfl ?_
  refine jr_zast (len := 12) rfl rfl (show _ = nI 4 from rfl) (by decide) ?_
  rw [show ((0 : Int32) &&& 1) = 0 from rfl]
  rw [jq_up]
  refine jr_iinc1 rfl rfl ?_
  refine jr_goto rfl ?_
  refine jr_iload rfl rfl ?_
  refine jr_ic rfl ?_
  refine jr_aload rfl rfl ?_
  refine jr_getI rfl rfl ?_
  refine jx_top (show _ = (0 : Int32) from rfl) ?_
  refine jr_imul rfl ?_
  refine jr_ic rfl ?_
  refine jr_iadd rfl ?_
  refine jr_icmp_ge rfl (fun z => absurd z (by decide)) (fun _ => ?_)
  refine jr_aload rfl rfl ?_
  refine jr_getR rfl rfl rfl rfl (Or.inl rfl) ?_
  refine jr_iload rfl rfl ?_
  refine jr_ic rfl ?_
  refine jr_zast (len := 12) rfl rfl (show _ = nI 5 from rfl) (by decide) ?_
  rw [show ((0 : Int32) &&& 1) = 0 from rfl]
  rw [jq_up]
  refine jr_iinc1 rfl rfl ?_
  refine jr_goto rfl ?_
  refine jr_iload rfl rfl ?_
  refine jr_ic rfl ?_
  refine jr_aload rfl rfl ?_
  refine jr_getI rfl rfl ?_
  refine jx_top (show _ = (0 : Int32) from rfl) ?_
  refine jr_imul rfl ?_
  refine jr_ic rfl ?_
  refine jr_iadd rfl ?_
  refine jr_icmp_ge rfl (fun _ => ?_) (fun z => absurd (by decide) z)
  refine jr_vret rfl rfl (Nat.zero_le _) (Nat.zero_le _) ?_
  have M1 : jMF 0 (ju_I (ju_I h 11 0 (upd G 44 0)) 65 0 F) (ju_I (ju_I (ju_I (ju_I (ju_I (ju_I (ju_I (ju_I (ju_I (ju_I (ju_I (ju_I (ju_I h 11 0 (upd G 44 0)) 65 0 F) 66 0 (upd (jh_I h 66 0) 0 0)) 67 0 (upd (jh_I h 67 0) 0 0)) 68 0 (upd (jh_I h 68 0) 0 0)) 69 0 (upd (jh_I h 69 0) 0 0)) 85 0 (upd (jh_I h 85 0) 0 0)) 86 0 (upd (jh_I h 86 0) 0 0)) 87 0 (upd (jh_I h 87 0) 0 0)) 88 0 (upd (jh_I h 88 0) 0 0)) 80 0 (upd (jh_I h 80 0) 0 0)) 81 0 (upd (jh_I h 81 0) 0 7)) 11 0 (upd (upd G 44 0) 45 (620 * 0))) := jMF_45 (jMF_I (a := 81) (w := 1) (jMF_I (a := 80) (w := 1) (jMF_I (a := 88) (w := 1) (jMF_I (a := 87) (w := 1) (jMF_I (a := 86) (w := 1) (jMF_I (a := 85) (w := 1) (jMF_I (a := 69) (w := 1) (jMF_I (a := 68) (w := 1) (jMF_I (a := 67) (w := 1) (jMF_I (a := 66) (w := 1) (jMF_r 0 _) (by decide) (by decide) (by decide) (by decide)) (by decide) (by decide) (by decide) (by decide)) (by decide) (by decide) (by decide) (by decide)) (by decide) (by decide) (by decide) (by decide)) (by decide) (by decide) (by decide) (by decide)) (by decide) (by decide) (by decide) (by decide)) (by decide) (by decide) (by decide) (by decide)) (by decide) (by decide) (by decide) (by decide)) (by decide) (by decide) (by decide) (by decide)) (by decide) (by decide) (by decide) (by decide))
  have M2 : jMF 0 (ju_I (ju_I h 11 0 (upd G 44 0)) 65 0 F) (ju_I (ju_I (ju_I (ju_I (ju_I (ju_I (ju_I (ju_I (ju_I (ju_I (ju_I (ju_I (ju_I (ju_I h 11 0 (upd G 44 0)) 65 0 F) 66 0 (upd (jh_I h 66 0) 0 0)) 67 0 (upd (jh_I h 67 0) 0 0)) 68 0 (upd (jh_I h 68 0) 0 0)) 69 0 (upd (jh_I h 69 0) 0 0)) 85 0 (upd (jh_I h 85 0) 0 0)) 86 0 (upd (jh_I h 86 0) 0 0)) 87 0 (upd (jh_I h 87 0) 0 0)) 88 0 (upd (jh_I h 88 0) 0 0)) 80 0 (upd (jh_I h 80 0) 0 0)) 81 0 (upd (jh_I h 81 0) 0 7)) 11 0 (upd (upd G 44 0) 45 (620 * 0))) 89 0 (upd (upd (upd (upd (upd (upd (jh_I h 89 0) 0 0) 1 0) 2 0) 3 0) 4 0) 5 0)) := ⟨fun a b z1 z2 => (if_neg (fun y => by omega)).trans (M1.1 a b z1 z2), fun a q z1 z2 z3 => ?_, M1.2.2.1, M1.2.2.2.1, M1.2.2.2.2.1, M1.2.2.2.2.2⟩
  · exact k _ M2 (fun f hf => jg_un hf) rfl rfl ⟨rfl, rfl, rfl, rfl, rfl, rfl, rfl, rfl, rfl, rfl, fun w hw => by
      rcases (show w = 0 ∨ w = 1 ∨ w = 2 ∨ w = 3 ∨ w = 4 ∨ w = 5 by omega) with rfl | rfl | rfl | rfl | rfl | rfl <;> rfl⟩
  · by_cases e : a = 89
    · subst e
      rw [show jh_I (ju_I (ju_I (ju_I (ju_I (ju_I (ju_I (ju_I (ju_I (ju_I (ju_I (ju_I (ju_I (ju_I (ju_I h 11 0 (upd G 44 0)) 65 0 F) 66 0 (upd (jh_I h 66 0) 0 0)) 67 0 (upd (jh_I h 67 0) 0 0)) 68 0 (upd (jh_I h 68 0) 0 0)) 69 0 (upd (jh_I h 69 0) 0 0)) 85 0 (upd (jh_I h 85 0) 0 0)) 86 0 (upd (jh_I h 86 0) 0 0)) 87 0 (upd (jh_I h 87 0) 0 0)) 88 0 (upd (jh_I h 88 0) 0 0)) 80 0 (upd (jh_I h 80 0) 0 0)) 81 0 (upd (jh_I h 81 0) 0 7)) 11 0 (upd (upd G 44 0) 45 (620 * 0))) 89 0 (upd (upd (upd (upd (upd (upd (jh_I h 89 0) 0 0) 1 0) 2 0) 3 0) 4 0) 5 0)) 89 0 = (upd (upd (upd (upd (upd (upd (jh_I h 89 0) 0 0) 1 0) 2 0) 3 0) 4 0) 5 0) from rfl]
      have w89 : jwd 89 = 6 := by decide
      rw [w89] at z3
      rw [jg_un (by omega), jg_un (by omega), jg_un (by omega), jg_un (by omega), jg_un (by omega), jg_un (by omega)]
      rfl
    · exact (congrFun (if_neg (fun y => e y.1)) q).trans (M1.2.1 a q z1 z2 z3)

set_option maxHeartbeats 800000 in
set_option maxRecDepth 100000 in
theorem eM_clearBank1 {d : Nat} {h : jx_H} {Q : Option jx_V → jx_H → Prop} {G F : Nat → Int32} (k : ∀ h', jMF 1 (ju_I (ju_I h 11 0 (upd G 44 1)) 65 0 F) h' → (∀ f, f ≠ 45 → jh_I h' 11 0 f = upd G 44 1 f) → jh_I h' 11 0 45 = nI (620 * 1) → jh_I h' 65 0 = F → jCBv h' 1 → Q none h')  : jx_Ev jm_MD_clearBank (d + 1) 0 0 false 1 [jv_r 11 0] (ju_I (ju_I h 11 0 (upd G 44 1)) 65 0 F) Q := by
  show jx_W (jm_MD_clearBank, d + 1, 0, 0, false, 1, _) Q 0 0 0 [some (jv_r 11 0), none] [] _
  refine jr_aload rfl rfl ?_
  refine jr_getR rfl rfl rfl rfl (Or.inl rfl) ?_
  refine jr_aload rfl rfl ?_
  refine jr_getI rfl rfl ?_
  refine jx_top (show _ = (1 : Int32) from rfl) ?_
  refine jr_ic rfl ?_
  refine jr_iast (len := 2) rfl rfl (show _ = nI 1 from rfl) (by decide) ?_
  rw [show jh_I (ju_I (ju_I h 11 0 (upd G 44 1)) 65 0 F) 66 0 = jh_I h 66 0 from rfl]
  refine jr_aload rfl rfl ?_
  refine jr_getR rfl rfl rfl rfl (Or.inl rfl) ?_
  refine jr_aload rfl rfl ?_
  refine jr_getI rfl rfl ?_
  refine jx_top (show _ = (1 : Int32) from rfl) ?_
  refine jr_ic rfl ?_
  refine jr_iast (len := 2) rfl rfl (show _ = nI 1 from rfl) (by decide) ?_
  rw [show jh_I (ju_I (ju_I (ju_I h 11 0 (upd G 44 1)) 65 0 F) 66 0 (upd (jh_I h 66 0) 1 0)) 67 0 = jh_I h 67 0 from rfl]
  refine jr_aload rfl rfl ?_
  refine jr_getR rfl rfl rfl rfl (Or.inl rfl) ?_
  refine jr_aload rfl rfl ?_
  refine jr_getI rfl rfl ?_
  refine jx_top (show _ = (1 : Int32) from rfl) ?_
  refine jr_ic rfl ?_
  refine jr_iast (len := 2) rfl rfl (show _ = nI 1 from rfl) (by decide) ?_
  rw [show jh_I (ju_I (ju_I (ju_I (ju_I h 11 0 (upd G 44 1)) 65 0 F) 66 0 (upd (jh_I h 66 0) 1 0)) 67 0 (upd (jh_I h 67 0) 1 0)) 68 0 = jh_I h 68 0 from rfl]
  refine jr_aload rfl rfl ?_
  refine jr_getR rfl rfl rfl rfl (Or.inl rfl) ?_
  refine jr_aload rfl rfl ?_
  refine jr_getI rfl rfl ?_
  refine jx_top (show _ = (1 : Int32) from rfl) ?_
  refine jr_ic rfl ?_
  refine jr_iast (len := 2) rfl rfl (show _ = nI 1 from rfl) (by decide) ?_
  rw [show jh_I (ju_I (ju_I (ju_I (ju_I (ju_I h 11 0 (upd G 44 1)) 65 0 F) 66 0 (upd (jh_I h 66 0) 1 0)) 67 0 (upd (jh_I h 67 0) 1 0)) 68 0 (upd (jh_I h 68 0) 1 0)) 69 0 = jh_I h 69 0 from rfl]
  refine jr_aload rfl rfl ?_
  refine jr_getR rfl rfl rfl rfl (Or.inl rfl) ?_
  refine jr_aload rfl rfl ?_
  refine jr_getI rfl rfl ?_
  refine jx_top (show _ = (1 : Int32) from rfl) ?_
  refine jr_ic rfl ?_
  refine jr_zast (len := 2) rfl rfl (show _ = nI 1 from rfl) (by decide) ?_
  rw [show ((0 : Int32) &&& 1) = 0 from rfl]
  rw [show jh_I (ju_I (ju_I (ju_I (ju_I (ju_I (ju_I h 11 0 (upd G 44 1)) 65 0 F) 66 0 (upd (jh_I h 66 0) 1 0)) 67 0 (upd (jh_I h 67 0) 1 0)) 68 0 (upd (jh_I h 68 0) 1 0)) 69 0 (upd (jh_I h 69 0) 1 0)) 85 0 = jh_I h 85 0 from rfl]
  refine jr_aload rfl rfl ?_
  refine jr_getR rfl rfl rfl rfl (Or.inl rfl) ?_
  refine jr_aload rfl rfl ?_
  refine jr_getI rfl rfl ?_
  refine jx_top (show _ = (1 : Int32) from rfl) ?_
  refine jr_ic rfl ?_
  refine jr_zast (len := 2) rfl rfl (show _ = nI 1 from rfl) (by decide) ?_
  rw [show ((0 : Int32) &&& 1) = 0 from rfl]
  rw [show jh_I (ju_I (ju_I (ju_I (ju_I (ju_I (ju_I (ju_I h 11 0 (upd G 44 1)) 65 0 F) 66 0 (upd (jh_I h 66 0) 1 0)) 67 0 (upd (jh_I h 67 0) 1 0)) 68 0 (upd (jh_I h 68 0) 1 0)) 69 0 (upd (jh_I h 69 0) 1 0)) 85 0 (upd (jh_I h 85 0) 1 0)) 86 0 = jh_I h 86 0 from rfl]
  refine jr_aload rfl rfl ?_
  refine jr_getR rfl rfl rfl rfl (Or.inl rfl) ?_
  refine jr_aload rfl rfl ?_
  refine jr_getI rfl rfl ?_
  refine jx_top (show _ = (1 : Int32) from rfl) ?_
  refine jr_ic rfl ?_
  refine jr_zast (len := 2) rfl rfl (show _ = nI 1 from rfl) (by decide) ?_
  rw [show ((0 : Int32) &&& 1) = 0 from rfl]
  rw [show jh_I (ju_I (ju_I (ju_I (ju_I (ju_I (ju_I (ju_I (ju_I h 11 0 (upd G 44 1)) 65 0 F) 66 0 (upd (jh_I h 66 0) 1 0)) 67 0 (upd (jh_I h 67 0) 1 0)) 68 0 (upd (jh_I h 68 0) 1 0)) 69 0 (upd (jh_I h 69 0) 1 0)) 85 0 (upd (jh_I h 85 0) 1 0)) 86 0 (upd (jh_I h 86 0) 1 0)) 87 0 = jh_I h 87 0 from rfl]
  refine jr_aload rfl rfl ?_
  refine jr_getR rfl rfl rfl rfl (Or.inl rfl) ?_
  refine jr_aload rfl rfl ?_
  refine jr_getI rfl rfl ?_
  refine jx_top (show _ = (1 : Int32) from rfl) ?_
  refine jr_ic rfl ?_
  refine jr_zast (len := 2) rfl rfl (show _ = nI 1 from rfl) (by decide) ?_
  rw [show ((0 : Int32) &&& 1) = 0 from rfl]
  rw [show jh_I (ju_I (ju_I (ju_I (ju_I (ju_I (ju_I (ju_I (ju_I (ju_I h 11 0 (upd G 44 1)) 65 0 F) 66 0 (upd (jh_I h 66 0) 1 0)) 67 0 (upd (jh_I h 67 0) 1 0)) 68 0 (upd (jh_I h 68 0) 1 0)) 69 0 (upd (jh_I h 69 0) 1 0)) 85 0 (upd (jh_I h 85 0) 1 0)) 86 0 (upd (jh_I h 86 0) 1 0)) 87 0 (upd (jh_I h 87 0) 1 0)) 88 0 = jh_I h 88 0 from rfl]
  refine jr_aload rfl rfl ?_
  refine jr_getR rfl rfl rfl rfl (Or.inl rfl) ?_
  refine jr_aload rfl rfl ?_
  refine jr_getI rfl rfl ?_
  refine jx_top (show _ = (1 : Int32) from rfl) ?_
  refine jr_ic rfl ?_
  refine jr_iast (len := 2) rfl rfl (show _ = nI 1 from rfl) (by decide) ?_
  rw [show jh_I (ju_I (ju_I (ju_I (ju_I (ju_I (ju_I (ju_I (ju_I (ju_I (ju_I h 11 0 (upd G 44 1)) 65 0 F) 66 0 (upd (jh_I h 66 0) 1 0)) 67 0 (upd (jh_I h 67 0) 1 0)) 68 0 (upd (jh_I h 68 0) 1 0)) 69 0 (upd (jh_I h 69 0) 1 0)) 85 0 (upd (jh_I h 85 0) 1 0)) 86 0 (upd (jh_I h 86 0) 1 0)) 87 0 (upd (jh_I h 87 0) 1 0)) 88 0 (upd (jh_I h 88 0) 1 0)) 80 0 = jh_I h 80 0 from rfl]
  refine jr_aload rfl rfl ?_
  refine jr_getR rfl rfl rfl rfl (Or.inl rfl) ?_
  refine jr_aload rfl rfl ?_
  refine jr_getI rfl rfl ?_
  refine jx_top (show _ = (1 : Int32) from rfl) ?_
  refine jr_ic rfl ?_
  refine jr_iast (len := 2) rfl rfl (show _ = nI 1 from rfl) (by decide) ?_
  rw [show jh_I (ju_I (ju_I (ju_I (ju_I (ju_I (ju_I (ju_I (ju_I (ju_I (ju_I (ju_I h 11 0 (upd G 44 1)) 65 0 F) 66 0 (upd (jh_I h 66 0) 1 0)) 67 0 (upd (jh_I h 67 0) 1 0)) 68 0 (upd (jh_I h 68 0) 1 0)) 69 0 (upd (jh_I h 69 0) 1 0)) 85 0 (upd (jh_I h 85 0) 1 0)) 86 0 (upd (jh_I h 86 0) 1 0)) 87 0 (upd (jh_I h 87 0) 1 0)) 88 0 (upd (jh_I h 88 0) 1 0)) 80 0 (upd (jh_I h 80 0) 1 0)) 81 0 = jh_I h 81 0 from rfl]
  refine jr_aload rfl rfl ?_
  refine jr_ic rfl ?_
  refine jr_aload rfl rfl ?_
  refine jr_getI rfl rfl ?_
  refine jx_top (show _ = (1 : Int32) from rfl) ?_
  refine jr_imul rfl ?_
  refine jr_putI rfl rfl ?_
  rw [show jh_I (ju_I (ju_I (ju_I (ju_I (ju_I (ju_I (ju_I (ju_I (ju_I (ju_I (ju_I (ju_I h 11 0 (upd G 44 1)) 65 0 F) 66 0 (upd (jh_I h 66 0) 1 0)) 67 0 (upd (jh_I h 67 0) 1 0)) 68 0 (upd (jh_I h 68 0) 1 0)) 69 0 (upd (jh_I h 69 0) 1 0)) 85 0 (upd (jh_I h 85 0) 1 0)) 86 0 (upd (jh_I h 86 0) 1 0)) 87 0 (upd (jh_I h 87 0) 1 0)) 88 0 (upd (jh_I h 88 0) 1 0)) 80 0 (upd (jh_I h 80 0) 1 0)) 81 0 (upd (jh_I h 81 0) 1 7)) 11 0 = upd G 44 1 from rfl]
  refine jr_ic rfl ?_
  refine jr_aload rfl rfl ?_
  refine jr_getI rfl rfl ?_
  refine jx_top (show _ = (1 : Int32) from rfl) ?_
  refine jr_imul rfl ?_
  refine jr_ist1 rfl rfl ?_
  refine jr_iload rfl rfl ?_
  refine jr_ic rfl ?_
  refine jr_aload rfl rfl ?_
  refine jr_getI rfl rfl ?_
  refine jx_top (show _ = (1 : Int32) from rfl) ?_
  refine jr_imul rfl ?_
  refine jr_ic rfl ?_
  refine jr_iadd rfl ?_
  refine jr_icmp_ge rfl (fun z => absurd z (by decide)) (fun _ => ?_)
  refine jr_aload rfl rfl ?_
  refine jr_getR rfl rfl rfl rfl (Or.inl rfl) ?_
  refine jr_iload rfl rfl ?_
  refine jr_ic rfl ?_
  refine jr_zast (len := 12) rfl rfl (show _ = nI 6 from rfl) (by decide) ?_
  rw [show ((0 : Int32) &&& 1) = 0 from rfl]
  rw [show jh_I (ju_I (ju_I (ju_I (ju_I (ju_I (ju_I (ju_I (ju_I (ju_I (ju_I (ju_I (ju_I (ju_I h 11 0 (upd G 44 1)) 65 0 F) 66 0 (upd (jh_I h 66 0) 1 0)) 67 0 (upd (jh_I h 67 0) 1 0)) 68 0 (upd (jh_I h 68 0) 1 0)) 69 0 (upd (jh_I h 69 0) 1 0)) 85 0 (upd (jh_I h 85 0) 1 0)) 86 0 (upd (jh_I h 86 0) 1 0)) 87 0 (upd (jh_I h 87 0) 1 0)) 88 0 (upd (jh_I h 88 0) 1 0)) 80 0 (upd (jh_I h 80 0) 1 0)) 81 0 (upd (jh_I h 81 0) 1 7)) 11 0 (upd (upd G 44 1) 45 (620 * 1))) 89 0 = jh_I h 89 0 from rfl]
  refine jr_iinc1 rfl rfl ?_
  refine jr_goto rfl ?_
  refine jr_iload rfl rfl ?_
  refine jr_ic rfl ?_
  refine jr_aload rfl rfl ?_
  refine jr_getI rfl rfl ?_
  refine jx_top (show _ = (1 : Int32) from rfl) ?_
  refine jr_imul rfl ?_
  refine jr_ic rfl ?_
  refine jr_iadd rfl ?_
  refine jr_icmp_ge rfl (fun z => absurd z (by decide)) (fun _ => ?_)
  refine jr_aload rfl rfl ?_
  refine jr_getR rfl rfl rfl rfl (Or.inl rfl) ?_
  refine jr_iload rfl rfl ?_
  refine jr_ic rfl ?_
  refine jr_zast (len := 12) rfl rfl (show _ = nI 7 from rfl) (by decide) ?_
  rw [show ((0 : Int32) &&& 1) = 0 from rfl]
  rw [jq_up]
  refine jr_iinc1 rfl rfl ?_
  refine jr_goto rfl ?_
  refine jr_iload rfl rfl ?_
  refine jr_ic rfl ?_
  refine jr_aload rfl rfl ?_
  refine jr_getI rfl rfl ?_
  refine jx_top (show _ = (1 : Int32) from rfl) ?_
  refine jr_imul rfl ?_
  refine jr_ic rfl ?_
  refine jr_iadd rfl ?_
  refine jr_icmp_ge rfl (fun z => absurd z (by decide)) (fun _ => ?_)
  refine jr_aload rfl rfl ?_
  refine jr_getR rfl rfl rfl rfl (Or.inl rfl) ?_
  refine jr_iload rfl rfl ?_
  refine jr_ic rfl ?_
  refine jr_zast (len := 12) rfl rfl (show _ = nI 8 from rfl) (by decide) ?_
  rw [show ((0 : Int32) &&& 1) = 0 from rfl]
  rw [jq_up]
  refine jr_iinc1 rfl rfl ?_
  refine jr_goto rfl ?_
  refine jr_iload rfl rfl ?_
  refine jr_ic rfl ?_
  refine jr_aload rfl rfl ?_
  refine jr_getI rfl rfl ?_
  refine jx_top (show _ = (1 : Int32) from rfl) ?_
  refine jr_imul rfl ?_
  refine jr_ic rfl ?_
  refine jr_iadd rfl ?_
  refine jr_icmp_ge rfl (fun z => absurd z (by decide)) (fun _ => ?_)
  refine jr_aload rfl rfl ?_
  refine jr_getR rfl rfl rfl rfl (Or.inl rfl) ?_
  refine jr_iload rfl rfl ?_
  refine jr_ic rfl ?_
  refine jr_zast (len := 12) rfl rfl (show _ = nI 9 from rfl) (by decide) ?_
  rw [show ((0 : Int32) &&& 1) = 0 from rfl]
  rw [jq_up]
  refine jr_iinc1 rfl rfl ?_
  refine jr_goto rfl ?_
  refine jr_iload rfl rfl ?_
  refine jr_ic rfl ?_
  refine jr_aload rfl rfl ?_
  refine jr_getI rfl rfl ?_
  refine jx_top (show _ = (1 : Int32) from rfl) ?_
  refine jr_imul rfl ?_
  refine jr_ic rfl ?_
  refine jr_iadd rfl ?_
  refine jr_icmp_ge rfl (fun z => absurd z (by decide)) (fun _ => ?_)
  refine jr_aload rfl rfl ?_
  refine jr_getR rfl rfl rfl rfl (Or.inl rfl) ?_
  refine jr_iload rfl rfl ?_
  refine jr_ic rfl ?_
  refine jr_zast (len := 12) rfl rfl (show _ = nI 10 from rfl) (by decide) ?_
  rw [show ((0 : Int32) &&& 1) = 0 from rfl]
  rw [jq_up]
  refine jr_iinc1 rfl rfl ?_
  refine jr_goto rfl ?_
  refine jr_iload rfl rfl ?_
  refine jr_ic rfl ?_
  refine jr_aload rfl rfl ?_
  refine jr_getI rfl rfl ?_
  refine jx_top (show _ = (1 : Int32) from rfl) ?_
  refine jr_imul rfl ?_
  refine jr_ic rfl ?_
  refine jr_iadd rfl ?_
  refine jr_icmp_ge rfl (fun z => absurd z (by decide)) (fun _ => ?_)
  refine jr_aload rfl rfl ?_
  refine jr_getR rfl rfl rfl rfl (Or.inl rfl) ?_
  refine jr_iload rfl rfl ?_
  refine jr_ic rfl ?_
  refine jr_zast (len := 12) rfl rfl (show _ = nI 11 from rfl) (by decide) ?_
  rw [show ((0 : Int32) &&& 1) = 0 from rfl]
  rw [jq_up]
  refine jr_iinc1 rfl rfl ?_
  refine jr_goto rfl ?_
  refine jr_iload rfl rfl ?_
  refine jr_ic rfl ?_
  refine jr_aload rfl rfl ?_
  refine jr_getI rfl rfl ?_
  refine jx_top (show _ = (1 : Int32) from rfl) ?_
  refine jr_imul rfl ?_
  refine jr_ic rfl ?_
  refine jr_iadd rfl ?_
  refine jr_icmp_ge rfl (fun _ => ?_) (fun z => absurd (by decide) z)
  refine jr_vret rfl rfl (Nat.zero_le _) (Nat.zero_le _) ?_
  have M1 : jMF 1 (ju_I (ju_I h 11 0 (upd G 44 1)) 65 0 F) (ju_I (ju_I (ju_I (ju_I (ju_I (ju_I (ju_I (ju_I (ju_I (ju_I (ju_I (ju_I (ju_I h 11 0 (upd G 44 1)) 65 0 F) 66 0 (upd (jh_I h 66 0) 1 0)) 67 0 (upd (jh_I h 67 0) 1 0)) 68 0 (upd (jh_I h 68 0) 1 0)) 69 0 (upd (jh_I h 69 0) 1 0)) 85 0 (upd (jh_I h 85 0) 1 0)) 86 0 (upd (jh_I h 86 0) 1 0)) 87 0 (upd (jh_I h 87 0) 1 0)) 88 0 (upd (jh_I h 88 0) 1 0)) 80 0 (upd (jh_I h 80 0) 1 0)) 81 0 (upd (jh_I h 81 0) 1 7)) 11 0 (upd (upd G 44 1) 45 (620 * 1))) := jMF_45 (jMF_I (a := 81) (w := 1) (jMF_I (a := 80) (w := 1) (jMF_I (a := 88) (w := 1) (jMF_I (a := 87) (w := 1) (jMF_I (a := 86) (w := 1) (jMF_I (a := 85) (w := 1) (jMF_I (a := 69) (w := 1) (jMF_I (a := 68) (w := 1) (jMF_I (a := 67) (w := 1) (jMF_I (a := 66) (w := 1) (jMF_r 1 _) (by decide) (by decide) (by decide) (by decide)) (by decide) (by decide) (by decide) (by decide)) (by decide) (by decide) (by decide) (by decide)) (by decide) (by decide) (by decide) (by decide)) (by decide) (by decide) (by decide) (by decide)) (by decide) (by decide) (by decide) (by decide)) (by decide) (by decide) (by decide) (by decide)) (by decide) (by decide) (by decide) (by decide)) (by decide) (by decide) (by decide) (by decide)) (by decide) (by decide) (by decide) (by decide))
  have M2 : jMF 1 (ju_I (ju_I h 11 0 (upd G 44 1)) 65 0 F) (ju_I (ju_I (ju_I (ju_I (ju_I (ju_I (ju_I (ju_I (ju_I (ju_I (ju_I (ju_I (ju_I (ju_I h 11 0 (upd G 44 1)) 65 0 F) 66 0 (upd (jh_I h 66 0) 1 0)) 67 0 (upd (jh_I h 67 0) 1 0)) 68 0 (upd (jh_I h 68 0) 1 0)) 69 0 (upd (jh_I h 69 0) 1 0)) 85 0 (upd (jh_I h 85 0) 1 0)) 86 0 (upd (jh_I h 86 0) 1 0)) 87 0 (upd (jh_I h 87 0) 1 0)) 88 0 (upd (jh_I h 88 0) 1 0)) 80 0 (upd (jh_I h 80 0) 1 0)) 81 0 (upd (jh_I h 81 0) 1 7)) 11 0 (upd (upd G 44 1) 45 (620 * 1))) 89 0 (upd (upd (upd (upd (upd (upd (jh_I h 89 0) 6 0) 7 0) 8 0) 9 0) 10 0) 11 0)) := ⟨fun a b z1 z2 => (if_neg (fun y => by omega)).trans (M1.1 a b z1 z2), fun a q z1 z2 z3 => ?_, M1.2.2.1, M1.2.2.2.1, M1.2.2.2.2.1, M1.2.2.2.2.2⟩
  · exact k _ M2 (fun f hf => jg_un hf) rfl rfl ⟨rfl, rfl, rfl, rfl, rfl, rfl, rfl, rfl, rfl, rfl, fun w hw => by
      rcases (show w = 0 ∨ w = 1 ∨ w = 2 ∨ w = 3 ∨ w = 4 ∨ w = 5 by omega) with rfl | rfl | rfl | rfl | rfl | rfl <;> rfl⟩
  · by_cases e : a = 89
    · subst e
      rw [show jh_I (ju_I (ju_I (ju_I (ju_I (ju_I (ju_I (ju_I (ju_I (ju_I (ju_I (ju_I (ju_I (ju_I (ju_I h 11 0 (upd G 44 1)) 65 0 F) 66 0 (upd (jh_I h 66 0) 1 0)) 67 0 (upd (jh_I h 67 0) 1 0)) 68 0 (upd (jh_I h 68 0) 1 0)) 69 0 (upd (jh_I h 69 0) 1 0)) 85 0 (upd (jh_I h 85 0) 1 0)) 86 0 (upd (jh_I h 86 0) 1 0)) 87 0 (upd (jh_I h 87 0) 1 0)) 88 0 (upd (jh_I h 88 0) 1 0)) 80 0 (upd (jh_I h 80 0) 1 0)) 81 0 (upd (jh_I h 81 0) 1 7)) 11 0 (upd (upd G 44 1) 45 (620 * 1))) 89 0 (upd (upd (upd (upd (upd (upd (jh_I h 89 0) 6 0) 7 0) 8 0) 9 0) 10 0) 11 0)) 89 0 = (upd (upd (upd (upd (upd (upd (jh_I h 89 0) 6 0) 7 0) 8 0) 9 0) 10 0) 11 0) from rfl]
      have w89 : jwd 89 = 6 := by decide
      rw [w89] at z3
      rw [jg_un (by omega), jg_un (by omega), jg_un (by omega), jg_un (by omega), jg_un (by omega), jg_un (by omega)]
      rfl
    · exact (congrFun (if_neg (fun y => e y.1)) q).trans (M1.2.1 a q z1 z2 z3)

