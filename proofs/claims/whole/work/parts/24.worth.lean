abbrev jw_goes (C : jw_C) (a : jw_A) (j : Nat) (l : Int32) : Prop := C 10 j = jw_month C a ∧ ¬ ((a 36 >>> (nI j &&& 31)) &&& 1 = 1) ∧ jw_paid C j l ≠ 0
/-- the first j dues of a month of length l: what p gets (c = 7), owes (c = 6) -/
def jw_part (C : jw_C) (a : jw_A) (c : Nat) (p l : Int32) : Nat → Int32
  | 0 => 0
  | j + 1 => if jw_goes C a j l then jw_part C a c p l j + (if C c j = p then C 8 j else 0) else jw_part C a c p l j
theorem jw_part_no {C : jw_C} {a : jw_A} {c j : Nat} {p l : Int32} (h : ¬ jw_goes C a j l) : jw_part C a c p l (j + 1) = jw_part C a c p l j := by rw [jw_part, if_neg h]
theorem jw_part_yes {C : jw_C} {a : jw_A} {c j : Nat} {p l : Int32} (h : jw_goes C a j l) (e : C c j = p) : jw_part C a c p l (j + 1) = jw_part C a c p l j + C 8 j := by rw [jw_part, if_pos h, if_pos e]
theorem jw_part_zero {C : jw_C} {a : jw_A} {c j : Nat} {p l : Int32} (h : jw_goes C a j l) (e : ¬ C c j = p) : jw_part C a c p l (j + 1) = jw_part C a c p l j + 0 := by rw [jw_part, if_pos h, if_neg e]
set_option maxHeartbeats 4000000 in
set_option maxRecDepth 100000 in
theorem lp_MD_worthOf {d : Nat} {Q : Option jx_V → jx_H → Prop} {b n0 p nd : Nat} {h : jx_H} {l dr hv : Int32} {F : Nat → Int32} (j : Nat) (hb2 : b < 2) (hmo : ¬ jC h b 0 0 = 0) (hnd : jC h b 2 0 = nI nd) (hn12 : nd ≤ 12) (hj : j ≤ nd) (hbF : F 43 = nI b) (hfr : ∀ f, f < 49 ∨ 53 < f → F f = jh_I h 11 0 f) (f0 : F 49 = l) (f1 : F 50 = jw_part (jC h b) (jA h) 7 (nI p) l j) (f2 : F 51 = jw_part (jC h b) (jA h) 6 (nI p) l j) (f3 : F 52 = dr) (f4 : F 53 = hv) (k : ∀ F : Nat → Int32, F 43 = nI b → (∀ f, f < 49 ∨ 53 < f → F f = jh_I h 11 0 f) → F 49 = l → F 50 = jw_part (jC h b) (jA h) 7 (nI p) l nd → F 51 = jw_part (jC h b) (jA h) 6 (nI p) l nd → F 52 = dr → F 53 = hv → ∀ w : Option jx_V, jx_W (jm_MD_worthOf, d + 3, 0, 0, false, 1, n0) Q 0 0 89 [some (jv_r 11 0), some (jv_i (nI p)), some (jv_i l), some (jv_i (nI nd)), none] [] (ju_I h 11 0 F))  : jx_W (jm_MD_worthOf, d + 3, 0, 0, false, 1, n0) Q 0 0 25 [some (jv_r 11 0), some (jv_i (nI p)), some (jv_i l), some (jv_i (nI j)), none] [] (ju_I h 11 0 F) := by
  refine jr_iload rfl rfl ?_
  refine jr_aload rfl rfl ?_
  refine jr_cv0 (mc' := 0) (ms' := 0) rfl jm_MD_dueMany_n jm_MD_dueMany_f rfl rfl rfl rfl rfl rfl rfl (Nat.zero_le _) (Nat.zero_le _) ?_
  refine ev_MD_dueMany (b := b) hbF hb2 ?_
  refine jr_icmp_ge rfl (fun c28 => ?_) (fun c28 => ?_)
  · have c28' : jC h b 2 0 ≤ nI j := c28
    rw [hnd] at c28'
    have hjn : j = nd := by have := jc_ge c28' (by omega) (by omega); omega
    subst hjn
    exact k F hbF hfr f0 f1 f2 f3 f4 none
  · have c28' : ¬ jC h b 2 0 ≤ nI j := c28
    rw [hnd] at c28'
    have hj1 := jc_lt c28' (by omega) (by omega)
    refine jr_ic rfl ?_
    refine jr_aload rfl rfl ?_
    refine jr_getI rfl rfl ?_
    refine jr_imul rfl ?_
    refine jr_iload rfl rfl ?_
    refine jr_iadd rfl ?_
    refine jr_ist4 rfl rfl ?_
    refine jr_aload rfl rfl ?_
    refine jr_getR rfl rfl rfl rfl (Or.inl rfl) ?_
    refine jr_iload rfl rfl ?_
    refine jr_iald (len := 24) rfl rfl (jn_add (jn_mul (jn_c 12) hbF) rfl) (by omega) ?_
    refine jr_aload rfl rfl ?_
    refine jr_cv0 (mc' := 0) (ms' := 0) rfl jm_MD_month_n jm_MD_month_f rfl rfl rfl rfl rfl rfl rfl (Nat.zero_le _) (Nat.zero_le _) ?_
    refine ev_MD_month (b := b) hbF hb2 hmo ?_
    refine jr_icmp_ne rfl (fun c42 => ?_) (fun c42 => ?_)
    · refine jr_iinc3 rfl rfl ?_
      refine jr_goto rfl ?_
      have hno : ¬ jw_goes (jC h b) (jA h) j l := fun z => c42 z.1
      rw [jn_S]
      exact jr_drop 4 (lp_MD_worthOf (j + 1) hb2 hmo hnd hn12 hj1 hbF hfr f0 (by rw [jw_part_no hno]; exact f1) (by rw [jw_part_no hno]; exact f2) f3 f4 k)
    · refine jr_aload rfl rfl ?_
      refine jr_iload rfl rfl ?_
      refine jr_cv1 (mc' := 0) (ms' := 0) rfl jm_MD_isForgiven_n jm_MD_isForgiven_f rfl rfl rfl rfl rfl rfl rfl (Nat.zero_le _) (Nat.zero_le _) ?_
      refine ev_MD_isForgiven ?_
      refine jr_if_ne rfl (fun c46 => ?_) (fun c46 => ?_)
      · refine jr_iinc3 rfl rfl ?_
        refine jr_goto rfl ?_
        have hno : ¬ jw_goes (jC h b) (jA h) j l := fun z => z.2.1 (jc_b1 c46)
        rw [jn_S]
        exact jr_drop 4 (lp_MD_worthOf (j + 1) hb2 hmo hnd hn12 hj1 hbF hfr f0 (by rw [jw_part_no hno]; exact f1) (by rw [jw_part_no hno]; exact f2) f3 f4 k)
      · refine jr_aload rfl rfl ?_
        refine jr_iload rfl rfl ?_
        refine jr_iload rfl rfl ?_
        refine jr_cv2 (mc' := 0) (ms' := 0) rfl jm_MD_paidOn_n jm_MD_paidOn_f rfl rfl rfl rfl rfl rfl rfl (Nat.zero_le _) (Nat.zero_le _) ?_
        refine ev_MD_paidOn (b := b) hbF hb2 (by omega) ?_
        refine jr_if_ne rfl (fun c51 => ?_) (fun c51 => ?_)
        · refine jr_aload rfl rfl ?_
          refine jr_dup_r rfl ?_
          refine jr_getI rfl rfl ?_
          refine jr_aload rfl rfl ?_
          refine jr_getR rfl rfl rfl rfl (Or.inl rfl) ?_
          refine jr_iload rfl rfl ?_
          refine jr_iald (len := 24) rfl rfl (jn_add (jn_mul (jn_c 12) hbF) rfl) (by omega) ?_
          refine jr_iload rfl rfl ?_
          refine jr_icmp_ne rfl (fun c61 => ?_) (fun c61 => ?_)
          · refine jr_ic rfl ?_
            refine jr_iadd rfl ?_
            refine jr_putI rfl rfl ?_
            refine jr_aload rfl rfl ?_
            refine jr_dup_r rfl ?_
            refine jr_getI rfl rfl ?_
            refine jr_aload rfl rfl ?_
            refine jr_getR rfl rfl rfl rfl (Or.inl rfl) ?_
            refine jr_iload rfl rfl ?_
            refine jr_iald (len := 24) rfl rfl (jn_add (jn_mul (jn_c 12) hbF) rfl) (by omega) ?_
            refine jr_iload rfl rfl ?_
            refine jr_icmp_ne rfl (fun c78 => ?_) (fun c78 => ?_)
            · refine jr_ic rfl ?_
              refine jr_iadd rfl ?_
              refine jr_putI rfl rfl ?_
              refine jr_iinc3 rfl rfl ?_
              refine jr_goto rfl ?_
              have hyes : jw_goes (jC h b) (jA h) j l := ⟨c42, jc_b0 c46, c51⟩
              simp only [jg_uu, jg_II]
              rw [jn_S]
              refine jr_drop 4 (lp_MD_worthOf (j + 1) hb2 hmo hnd hn12 hj1 hbF (fun f hf => ?_) f0 ?_ ?_ f3 f4 k)
              · rw [jg_un (by omega), jg_un (by omega)]; exact hfr f hf
              · rw [jw_part_zero (c := 7) (p := nI p) hyes c61, ← f1]; rfl
              · rw [jw_part_zero (c := 6) (p := nI p) hyes c78, ← f2]; rfl
            · refine jr_aload rfl rfl ?_
              refine jr_getR rfl rfl rfl rfl (Or.inl rfl) ?_
              refine jr_iload rfl rfl ?_
              refine jr_iald (len := 24) rfl rfl (jn_add (jn_mul (jn_c 12) hbF) rfl) (by omega) ?_
              refine jr_goto rfl ?_
              refine jr_iadd rfl ?_
              refine jr_putI rfl rfl ?_
              refine jr_iinc3 rfl rfl ?_
              refine jr_goto rfl ?_
              have hyes : jw_goes (jC h b) (jA h) j l := ⟨c42, jc_b0 c46, c51⟩
              simp only [jg_uu, jg_II]
              rw [jn_S]
              refine jr_drop 4 (lp_MD_worthOf (j + 1) hb2 hmo hnd hn12 hj1 hbF (fun f hf => ?_) f0 ?_ ?_ f3 f4 k)
              · rw [jg_un (by omega), jg_un (by omega)]; exact hfr f hf
              · rw [jw_part_zero (c := 7) (p := nI p) hyes c61, ← f1]; rfl
              · rw [jw_part_yes (c := 6) (p := nI p) hyes c78, ← f2]; rfl
          · refine jr_aload rfl rfl ?_
            refine jr_getR rfl rfl rfl rfl (Or.inl rfl) ?_
            refine jr_iload rfl rfl ?_
            refine jr_iald (len := 24) rfl rfl (jn_add (jn_mul (jn_c 12) hbF) rfl) (by omega) ?_
            refine jr_goto rfl ?_
            refine jr_iadd rfl ?_
            refine jr_putI rfl rfl ?_
            refine jr_aload rfl rfl ?_
            refine jr_dup_r rfl ?_
            refine jr_getI rfl rfl ?_
            refine jr_aload rfl rfl ?_
            refine jr_getR rfl rfl rfl rfl (Or.inl rfl) ?_
            refine jr_iload rfl rfl ?_
            refine jr_iald (len := 24) rfl rfl (jn_add (jn_mul (jn_c 12) hbF) rfl) (by omega) ?_
            refine jr_iload rfl rfl ?_
            refine jr_icmp_ne rfl (fun c78 => ?_) (fun c78 => ?_)
            · refine jr_ic rfl ?_
              refine jr_iadd rfl ?_
              refine jr_putI rfl rfl ?_
              refine jr_iinc3 rfl rfl ?_
              refine jr_goto rfl ?_
              have hyes : jw_goes (jC h b) (jA h) j l := ⟨c42, jc_b0 c46, c51⟩
              simp only [jg_uu, jg_II]
              rw [jn_S]
              refine jr_drop 4 (lp_MD_worthOf (j + 1) hb2 hmo hnd hn12 hj1 hbF (fun f hf => ?_) f0 ?_ ?_ f3 f4 k)
              · rw [jg_un (by omega), jg_un (by omega)]; exact hfr f hf
              · rw [jw_part_yes (c := 7) (p := nI p) hyes c61, ← f1]; rfl
              · rw [jw_part_zero (c := 6) (p := nI p) hyes c78, ← f2]; rfl
            · refine jr_aload rfl rfl ?_
              refine jr_getR rfl rfl rfl rfl (Or.inl rfl) ?_
              refine jr_iload rfl rfl ?_
              refine jr_iald (len := 24) rfl rfl (jn_add (jn_mul (jn_c 12) hbF) rfl) (by omega) ?_
              refine jr_goto rfl ?_
              refine jr_iadd rfl ?_
              refine jr_putI rfl rfl ?_
              refine jr_iinc3 rfl rfl ?_
              refine jr_goto rfl ?_
              have hyes : jw_goes (jC h b) (jA h) j l := ⟨c42, jc_b0 c46, c51⟩
              simp only [jg_uu, jg_II]
              rw [jn_S]
              refine jr_drop 4 (lp_MD_worthOf (j + 1) hb2 hmo hnd hn12 hj1 hbF (fun f hf => ?_) f0 ?_ ?_ f3 f4 k)
              · rw [jg_un (by omega), jg_un (by omega)]; exact hfr f hf
              · rw [jw_part_yes (c := 7) (p := nI p) hyes c61, ← f1]; rfl
              · rw [jw_part_yes (c := 6) (p := nI p) hyes c78, ← f2]; rfl
        · refine jr_goto rfl ?_
          refine jr_iinc3 rfl rfl ?_
          refine jr_goto rfl ?_
          have hno : ¬ jw_goes (jC h b) (jA h) j l := fun z => z.2.2 c51
          rw [jn_S]
          exact jr_drop 4 (lp_MD_worthOf (j + 1) hb2 hmo hnd hn12 hj1 hbF hfr f0 (by rw [jw_part_no hno]; exact f1) (by rw [jw_part_no hno]; exact f2) f3 f4 k)
termination_by nd - j
decreasing_by all_goals omega

