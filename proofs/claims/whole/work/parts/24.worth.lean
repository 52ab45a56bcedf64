abbrev jw_goes (C : jw_C) (a : jw_A) (j : Nat) (l : Int32) : Prop := C 10 j = jw_month C a ∧ ¬ ((a 36 >>> (nI j &&& 31)) &&& 1 = 1) ∧ jw_paid C j l ≠ 0
/-- the first j dues of a month of length l: what p gets (c = 7), owes (c = 6) -/
def jw_part (C : jw_C) (a : jw_A) (c : Nat) (p l : Int32) : Nat → Int32
  | 0 => 0
  | j + 1 => if jw_goes C a j l then jw_part C a c p l j + (if C c j = p then C 8 j else 0) else jw_part C a c p l j
theorem jw_part_no {C : jw_C} {a : jw_A} {c j : Nat} {p l : Int32} (h : ¬ jw_goes C a j l) : jw_part C a c p l (j + 1) = jw_part C a c p l j := by rw [jw_part, if_neg h]
theorem jw_part_yes {C : jw_C} {a : jw_A} {c j : Nat} {p l : Int32} (h : jw_goes C a j l) (e : C c j = p) : jw_part C a c p l (j + 1) = jw_part C a c p l j + C 8 j := by rw [jw_part, if_pos h, if_pos e]
theorem jw_part_zero {C : jw_C} {a : jw_A} {c j : Nat} {p l : Int32} (h : jw_goes C a j l) (e : ¬ C c j = p) : jw_part C a c p l (j + 1) = jw_part C a c p l j + 0 := by rw [jw_part, if_pos h, if_neg e]
set_option maxHeartbeats 4000000 in
set_option maxRecDepth 100000 in
theorem lp_MD_worthOf {d : Nat} {Q : Option jx_V → jx_H → Prop} {b n0 p nd : Nat} {h : jx_H} {l dr hv : Int32} {F : Nat → Int32} (j : Nat) (hb2 : b < 2) (hmo : ¬ jC h b 0 0 = 0) (hnd : jC h b 2 0 = nI nd) (hn12 : nd ≤ 12) (hj : j ≤ nd) (hbF : F 43 = nI b) (hfr : ∀ f, f < 49 ∨ 53 < f → F f = jh_I h 11 0 f) (f0 : F 49 = l) (f1 : F 50 = jw_part (jC h b) (jA h) 7 (nI p) l j) (f2 : F 51 = jw_part (jC h b) (jA h) 6 (nI p) l j) (f3 : F 52 = dr) (f4 : F 53 = hv) (k : ∀ F : Nat → Int32, F 43 = nI b → (∀ f, f < 49 ∨ 53 < f → F f = jh_I h 11 0 f) → F 49 = l → F 50 = jw_part (jC h b) (jA h) 7 (nI p) l nd → F 51 = jw_part (jC h b) (jA h) 6 (nI p) l nd → F 52 = dr → F 53 = hv → ∀ w : Option jx_V, jx_W (jm_MD_worthOf, d + 3, 0, 0, false, 1, n0) Q 0 0 89 [some (jv_r 11 0), some (jv_i (nI p)), some (jv_i l), some (jv_i (nI nd)), none] [] (ju_I h 11 0 F))  : jx_W (jm_MD_worthOf, d + 3, 0, 0, false, 1, n0) Q 0 0 25 [some (jv_r 11 0), some (jv_i (nI p)), some (jv_i l), some (jv_i (nI j)), none] [] (ju_I h 11 0 F) := by
  refine jr_iload rfl rfl ?_
  refine jr_aload rfl rfl ?_
  refine jr_cv0 (mc' := 0) (ms' := 0) rfl jm_MD_dueMany_n jm_MD_dueMany_f rfl rfl rfl rfl rfl rfl rfl (Nat.zero_le _) (Nat.zero_le _) ?_
  refine ev_MD_dueMany (b := b) hbF hb2 ?_
  refine jr_icmp_ge rfl (fun c28 => ?_) (fun c28 => ?_)
  · have c28' : jC h b 2 0 ≤ nI j := c28
    rw [hnd] at c28'
    have hjn : j = nd := by have := jc_ge c28' (by omega) (by omega); omega
    subst hjn
    exact k F hbF hfr f0 f1 f2 f3 f4 none
  · have c28' : ¬ jC h b 2 0 ≤ nI j := c28
    rw [hnd] at c28'
    have hj1 := jc_lt c28' (by omega) (by omega)
    refine jr_ic rfl ?_
    refine jr_aload rfl rfl ?_
    refine jr_getI rfl rfl ?_
    refine jr_imul rfl ?_
    refine jr_iload rfl rfl ?_
    refine jr_iadd rfl ?_
    refine jr_ist4 rfl rfl ?_
    refine jr_aload rfl rfl ?_
    refine jr_getR rfl rfl rfl rfl (Or.inl rfl) ?_
    refine jr_iload rfl rfl ?_
    refine jr_iald (len := 24) rfl rfl (jn_add (jn_mul (jn_c 12) hbF) rfl) (by omega) ?_
    refine jr_aload rfl rfl ?_
    refine jr_cv0 (mc' := 0) (ms' := 0) rfl jm_MD_month_n jm_MD_month_f rfl rfl rfl rfl rfl rfl rfl (Nat.zero_le _) (Nat.zero_le _) ?_
    refine ev_MD_month (b := b) hbF hb2 hmo ?_
    refine jr_icmp_ne rfl (fun c42 => ?_) (fun c42 => ?_)
    · refine jr_iinc3 rfl rfl ?_
      refine jr_goto rfl ?_
      have hno : ¬ jw_goes (jC h b) (jA h) j l := fun z => c42 z.1
      rw [jn_S]
      exact jr_drop 4 (lp_MD_worthOf (j + 1) hb2 hmo hnd hn12 hj1 hbF hfr f0 (by rw [jw_part_no hno]; exact f1) (by rw [jw_part_no hno]; exact f2) f3 f4 k)
    · refine jr_aload rfl rfl ?_
      refine jr_iload rfl rfl ?_
      refine jr_cv1 (mc' := 0) (ms' := 0) rfl jm_MD_isForgiven_n jm_MD_isForgiven_f rfl rfl rfl rfl rfl rfl rfl (Nat.zero_le _) (Nat.zero_le _) ?_
      refine ev_MD_isForgiven ?_
      refine jr_if_ne rfl (fun c46 => ?_) (fun c46 => ?_)
      · refine jr_iinc3 rfl rfl ?_
        refine jr_goto rfl ?_
        have hno : ¬ jw_goes (jC h b) (jA h) j l := fun z => z.2.1 (jc_b1 c46)
        rw [jn_S]
        exact jr_drop 4 (lp_MD_worthOf (j + 1) hb2 hmo hnd hn12 hj1 hbF hfr f0 (by rw [jw_part_no hno]; exact f1) (by rw [jw_part_no hno]; exact f2) f3 f4 k)
      · refine jr_aload rfl rfl ?_
        refine jr_iload rfl rfl ?_
        refine jr_iload rfl rfl ?_
        refine jr_cv2 (mc' := 0) (ms' := 0) rfl jm_MD_paidOn_n jm_MD_paidOn_f rfl rfl rfl rfl rfl rfl rfl (Nat.zero_le _) (Nat.zero_le _) ?_
        refine ev_MD_paidOn (b := b) hbF hb2 (by omega) ?_
        refine jr_if_ne rfl (fun c51 => ?_) (fun c51 => ?_)
        · refine jr_aload rfl rfl ?_
          refine jr_dup_r rfl ?_
          refine jr_getI rfl rfl ?_
          refine jr_aload rfl rfl ?_
          refine jr_getR rfl rfl rfl rfl (Or.inl rfl) ?_
          refine jr_iload rfl rfl ?_
          refine jr_iald (len := 24) rfl rfl (jn_add (jn_mul (jn_c 12) hbF) rfl) (by omega) ?_
          refine jr_iload rfl rfl ?_
          refine jr_icmp_ne rfl (fun c61 => ?_) (fun c61 => ?_)
          · refine jr_ic rfl ?_
            refine jr_iadd rfl ?_
            refine jr_putI rfl rfl ?_
            refine jr_aload rfl rfl ?_
            refine jr_dup_r rfl ?_
            refine jr_getI rfl rfl ?_
            refine jr_aload rfl rfl ?_
            refine jr_getR rfl rfl rfl rfl (Or.inl rfl) ?_
            refine jr_iload rfl rfl ?_
            refine jr_iald (len := 24) rfl rfl (jn_add (jn_mul (jn_c 12) hbF) rfl) (by omega) ?_
            refine jr_iload rfl rfl ?_
            refine jr_icmp_ne rfl (fun c78 => ?_) (fun c78 => ?_)
            · refine jr_ic rfl ?_
              refine jr_iadd rfl ?_
              refine jr_putI rfl rfl ?_
              refine jr_iinc3 rfl rfl ?_
              refine jr_goto rfl ?_
              have hyes : jw_goes (jC h b) (jA h) j l := ⟨c42, jc_b0 c46, c51⟩
              simp only [jg_uu, jg_II]
              rw [jn_S]
              refine jr_drop 4 (lp_MD_worthOf (j + 1) hb2 hmo hnd hn12 hj1 hbF (fun f hf => ?_) f0 ?_ ?_ f3 f4 k)
              · rw [jg_un (by omega), jg_un (by omega)]; exact hfr f hf
              · rw [jw_part_zero (c := 7) (p := nI p) hyes c61, ← f1]; rfl
              · rw [jw_part_zero (c := 6) (p := nI p) hyes c78, ← f2]; rfl
            · refine jr_aload rfl rfl ?_
              refine jr_getR rfl rfl rfl rfl (Or.inl rfl) ?_
              refine jr_iload rfl rfl ?_
              refine jr_iald (len := 24) rfl rfl (jn_add (jn_mul (jn_c 12) hbF) rfl) (by omega) ?_
              refine jr_goto rfl ?_
              refine jr_iadd rfl ?_
              refine jr_putI rfl rfl ?_
              refine jr_iinc3 rfl rfl ?_
              refine jr_goto rfl ?_
              have hyes : jw_goes (jC h b) (jA h) j l := ⟨c42, jc_b0 c46, c51⟩
              simp only [jg_uu, jg_II]
              rw [jn_S]
              refine jr_drop 4 (lp_MD_worthOf (j + 1) hb2 hmo hnd hn12 hj1 hbF (fun f hf => ?_) f0 ?_ ?_ f3 f4 k)
              · rw [jg_un (by omega), jg_un (by omega)]; exact hfr f hf
              · rw [jw_part_zero (c := 7) (p := nI p) hyes c61, ← f1]; rfl
              · rw [jw_part_yes (c := 6) (p := nI p) hyes c78, ← f2]; rfl
          · refine jr_aload rfl rfl ?_
            refine jr_getR rfl rfl rfl rfl (Or.inl rfl) ?_
            refine jr_iload rfl rfl ?_
            refine jr_iald (len := 24) rfl rfl (jn_add (jn_mul (jn_c 12) hbF) rfl) (by omega) ?_
            refine jr_goto rfl ?_
            refine jr_iadd rfl ?_
            refine jr_putI rfl rfl ?_
            refine jr_aload rfl rfl ?_
            refine jr_dup_r rfl ?_
            refine jr_getI rfl rfl ?_
            refine jr_aload rfl rfl ?_
            refine jr_getR rfl rfl rfl rfl (Or.inl rfl) ?_
            refine jr_iload rfl rfl ?_
            refine jr_iald (len := 24) rfl rfl (jn_add (jn_mul (jn_c 12) hbF) rfl) (by omega) ?_
            refine jr_iload rfl rfl ?_
            refine jr_icmp_ne rfl (fun c78 => ?_) (fun c78 => ?_)
            · refine jr_ic rfl ?_
              refine jr_iadd rfl ?_
              refine jr_putI rfl rfl ?_
              refine jr_iinc3 rfl rfl ?_
              refine jr_goto rfl ?_
              have hyes : jw_goes (jC h b) (jA h) j l := ⟨c42, jc_b0 c46, c51⟩
              simp only [jg_uu, jg_II]
              rw [jn_S]
              refine jr_drop 4 (lp_MD_worthOf (j + 1) hb2 hmo hnd hn12 hj1 hbF (fun f hf => ?_) f0 ?_ ?_ f3 f4 k)
              · rw [jg_un (by omega), jg_un (by omega)]; exact hfr f hf
              · rw [jw_part_yes (c := 7) (p := nI p) hyes c61, ← f1]; rfl
              · rw [jw_part_zero (c := 6) (p := nI p) hyes c78, ← f2]; rfl
            · refine jr_aload rfl rfl ?_
              refine jr_getR rfl rfl rfl rfl (Or.inl rfl) ?_
              refine jr_iload rfl rfl ?_
              refine jr_iald (len := 24) rfl rfl (jn_add (jn_mul (jn_c 12) hbF) rfl) (by omega) ?_
              refine jr_goto rfl ?_
              refine jr_iadd rfl ?_
              refine jr_putI rfl rfl ?_
              refine jr_iinc3 rfl rfl ?_
              refine jr_goto rfl ?_
              have hyes : jw_goes (jC h b) (jA h) j l := ⟨c42, jc_b0 c46, c51⟩
              simp only [jg_uu, jg_II]
              rw [jn_S]
              refine jr_drop 4 (lp_MD_worthOf (j + 1) hb2 hmo hnd hn12 hj1 hbF (fun f hf => ?_) f0 ?_ ?_ f3 f4 k)
              · rw [jg_un (by omega), jg_un (by omega)]; exact hfr f hf
              · rw [jw_part_yes (c := 7) (p := nI p) hyes c61, ← f1]; rfl
              · rw [jw_part_yes (c := 6) (p := nI p) hyes c78, ← f2]; rfl
        · refine jr_goto rfl ?_
          refine jr_iinc3 rfl rfl ?_
          refine jr_goto rfl ?_
          have hno : ¬ jw_goes (jC h b) (jA h) j l := fun z => z.2.2 c51
          rw [jn_S]
          exact jr_drop 4 (lp_MD_worthOf (j + 1) hb2 hmo hnd hn12 hj1 hbF hfr f0 (by rw [jw_part_no hno]; exact f1) (by rw [jw_part_no hno]; exact f2) f3 f4 k)
termination_by nd - j
decreasing_by all_goals omega

theorem jw_asked_env {C : jw_C} {a : jw_A} {E E' : Nat → Int32} (h0 : E 0 = E' 0) (h1 : E 1 = E' 1) (h2 : E 2 = E' 2) (h3 : E 3 = E' 3) (h4 : E 4 = E' 4) : jw_asked C a E = jw_asked C a E' := by
  funext c n
  unfold jw_asked
  rw [h0, h1, h2, h3, h4]
def jw_env (C : jw_C) (a : jw_A) (p : Nat) (l : Int32) (nd : Nat) : Nat → Int32
  | 0 => l
  | 1 => jw_part C a 7 (nI p) l nd
  | 2 => jw_part C a 6 (nI p) l nd
  | 3 => jw_down (jw_dU C (a 1 + l) (a 0 + 1)) (jw_dL C)
  | 4 => a (2 + p)
  | _ => 0
def jw_rk (h : jx_H) (b r : Nat) : Nat := (jh_I h 82 0 (6 * b + r)).toNatClampNeg
def jw_rn (h : jx_H) (b r : Nat) : Nat := (jh_I h 83 0 (6 * b + r)).toNatClampNeg - jw_rk h b r
def jw_good (h : jx_H) (b r : Nat) : Prop := jh_I h 82 0 (6 * b + r) = nI (jw_rk h b r) ∧ jh_I h 83 0 (6 * b + r) = nI (jw_rk h b r + jw_rn h b r) ∧ jw_rk h b r + jw_rn h b r ≤ 1240 ∧ jw_ok (jh_I h 93 0) (jw_rn h b r) (jw_rk h b r) 0
def jw_val (h : jx_H) (b r : Nat) (ask : Int32 → Int32 → Int32) : Int32 := (jw_evs (jh_I h 93 0) (jh_I h 94 0) ask (jw_rn h b r) (jw_rk h b r) []).headD 0
def jw_worth (h : jx_H) (b p : Nat) (l : Int32) (nd : Nat) : Int32 := if jC h b 18 p = 0 then 0 else jw_val h b p (jw_asked (jC h b) (jA h) (jw_env (jC h b) (jA h) p l nd))
set_option maxHeartbeats 4000000 in
set_option maxRecDepth 100000 in
theorem ev_MD_worthOf {d : Nat} {h : jx_H} {Q : Option jx_V → jx_H → Prop} {b p nd : Nat} {l : Int32} (hb : jh_I h 11 0 43 = nI b) (hb2 : b < 2) (hp : p < 5) (hdl : ¬ jw_dL (jC h b) = 0) (hmo : ¬ jC h b 0 0 = 0) (hnd : jC h b 2 0 = nI nd) (hn12 : nd ≤ 12) (hgd : ¬ jC h b 18 p = 0 → jw_good h b p)
  (hQ : ∀ F G : Nat → Int32, (∀ f, f < 49 ∨ 53 < f → F f = jh_I h 11 0 f) → Q (some (jv_i (jw_worth h b p l nd))) (ju_I (ju_I h 11 0 F) 97 0 G)) : jx_Ev jm_MD_worthOf (d + 4) 0 0 false 1 [jv_r 11 0, jv_i (nI p), jv_i l] h Q := by
  show jx_W (jm_MD_worthOf, d + 4, 0, 0, false, 1, jh_n h) Q 0 0 0 [some (jv_r 11 0), some (jv_i (nI p)), some (jv_i l), none, none] [] h
  refine jr_aload rfl rfl ?_
  refine jr_getR rfl rfl rfl rfl (Or.inl rfl) ?_
  refine jr_ic rfl ?_
  refine jr_aload rfl rfl ?_
  refine jr_getI rfl rfl ?_
  refine jr_imul rfl ?_
  refine jr_iload rfl rfl ?_
  refine jr_iadd rfl ?_
  refine jr_zald (len := 12) rfl rfl (jn_add (jn_mul (jn_c 6) hb) rfl) (by omega) ?_
  refine jr_if_ne rfl (fun c9 => ?_) (fun c9 => ?_)
  · have hgd' := hgd c9
    refine jr_aload rfl rfl ?_
    refine jr_iload rfl rfl ?_
    refine jr_cv1 (mc' := 0) (ms' := 0) rfl jm_MD_ask_n jm_MD_ask_f rfl rfl rfl rfl rfl rfl rfl (Nat.zero_le _) (Nat.zero_le _) ?_
    refine ev_MD_ask hb hb2 hdl (fun F hfr f0 f1 f2 f3 f4 => ?_)
    refine jr_aload rfl rfl ?_
    refine jr_aload rfl rfl ?_
    refine jr_getR rfl rfl rfl rfl (Or.inl rfl) ?_
    refine jr_ic rfl ?_
    refine jr_iload rfl rfl ?_
    refine jr_iadd rfl ?_
    refine jr_iald (len := 337) rfl rfl (jn_add (jn_c 2) rfl) (by omega) ?_
    refine jr_putI rfl rfl ?_
    refine jr_ic rfl ?_
    refine jr_ist3 rfl rfl ?_
    simp only [jg_uu, jg_II]
    refine lp_MD_worthOf (nd := nd) 0 hb2 hmo hnd hn12 (Nat.zero_le _) ((jg_un (by decide)).trans ((hfr 43 (by decide)).trans hb)) (fun f hf => (jg_un (by omega)).trans (hfr f hf)) f0 f1 f2 f3 rfl (fun F' k43 kfr k0 k1 k2 k3 k4 w => ?_)
    obtain ⟨g1, g2, g3, g4⟩ := hgd'
    refine jr_aload rfl rfl ?_
    refine jr_iload rfl rfl ?_
    refine jr_cv1 (mc' := 0) (ms' := 0) rfl jm_MD_comes_n jm_MD_comes_f rfl rfl rfl rfl rfl rfl rfl (Nat.zero_le _) (Nat.zero_le _) ?_
    refine ev_MD_comes (b := b) k43 hb2 (by omega) hmo g1 g2 g3 g4 (fun G => ?_)
    refine jr_iret rfl rfl (Nat.zero_le _) (Nat.zero_le _) ?_
    have := hQ F' G kfr
    rw [jw_worth, if_neg (show ¬ jC h b 18 p = 0 from c9)] at this
    have e : jw_asked (jC h b) (jA h) (fun i => jh_I (ju_I h 11 0 F') 11 0 (49 + i)) = jw_asked (jC h b) (jA h) (jw_env (jC h b) (jA h) p l nd) := jw_asked_env k0 k1 k2 k3 k4
    rw [← e] at this
    exact this
  · refine jr_ic rfl ?_
    refine jr_iret rfl rfl (Nat.zero_le _) (Nat.zero_le _) ?_
    have := hQ (jh_I h 11 0) (jh_I h 97 0) (fun _ _ => rfl)
    rw [jg_self, jg_self] at this
    rw [jw_worth, if_pos (show jC h b 18 p = 0 from c9)] at this
    exact this

