def jt_join (c a b : Int32) : Int32 :=
  if c.toInt = 37 then (if b = 0 then 0 else jw_rem a b) else if c.toInt = 42 then a * b else if c.toInt = 43 then a + b else if c.toInt = 45 then a - b else if c.toInt = 47 then (if b = 0 then 0 else a / b)
  else if c.toInt = 60 then (if b ≤ a then 0 else 1) else if c.toInt = 61 then (if a = b then 1 else 0) else if c.toInt = 62 then (if a ≤ b then 0 else 1) else if c.toInt = 119 then (if a = 0 then 0 else if b = 0 then 0 else 1) else (if a = 0 then (if b = 0 then 0 else 1) else 1)
def jt_fact (mo l g w dr y hv kd : Int32) : Int32 :=
  if kd.toInt = 100 then mo else if kd.toInt = 101 then l else if kd.toInt = 102 then g else if kd.toInt = 103 then w else if kd.toInt = 104 then dr else if kd.toInt = 105 then y else hv
/-- a word of the class, the model's sign for it -/
def jt_wd (kd c : Int32) : Prop := (kd = 100 ∧ c = 109) ∨ (kd = 101 ∧ c = 100) ∨ (kd = 102 ∧ c = 103) ∨ (kd = 103 ∧ c = 111) ∨ (kd = 104 ∧ c = 102) ∨ (kd = 105 ∧ c = 121) ∨ (kd = 106 ∧ c = 104)
/-- an element of the class's code, the model's sign and number -/
def jt_tr (e c n : Int32) : Prop := (c = 110 ∧ e = n ∧ 0 ≤ n) ∨ jt_wd (-e) c ∨ (c = 126 ∧ e = -128) ∨ (c = 43 ∧ e = -43) ∨ (c = 45 ∧ e = -45) ∨ (c = 42 ∧ e = -42) ∨ (c = 47 ∧ e = -47) ∨ (c = 37 ∧ e = -37) ∨ (c = 60 ∧ e = -60) ∨ (c = 62 ∧ e = -62) ∨ (c = 61 ∧ e = -61) ∨ (c = 38 ∧ e = -119) ∨ (c = 124 ∧ e = -127)
theorem jt_tr_pos {e c n : Int32} (h : jt_tr e c n) (h0 : 0 ≤ e) : c = 110 ∧ e = n := by
  rcases h with ⟨h1, h2, -⟩ | h | ⟨h1, h2⟩ | h
  · exact ⟨h1, h2⟩
  · exfalso
    have hk : 100 ≤ -e ∧ -e ≤ 106 := by rcases h with h | h | h | h | h | h | h <;> (rw [h.1]; decide)
    have e1 : e = - - e := by rw [Int32.neg_neg]
    rcases h with h | h | h | h | h | h | h <;> (rw [e1, h.1] at h0; exact absurd h0 (by decide))
  · rw [h2] at h0; exact absurd h0 (by decide)
  · rcases h with h | h | h | h | h | h | h | h | h | h <;> (rw [h.2] at h0; exact absurd h0 (by decide))
theorem jt_wd_in {kd c : Int32} (h : jt_wd kd c) : 100 ≤ kd ∧ kd ≤ 106 ∧ c ≠ 126 ∧ 97 ≤ c ∧ c ≤ 122 := by
  rcases h with h | h | h | h | h | h | h <;> (rw [h.1, h.2]; decide)
theorem jt_tr_word {e c n : Int32} (h : jt_tr e c n) (h0 : ¬ 0 ≤ e) (h1 : 100 ≤ -e) (h2 : -e ≤ 106) : jt_wd (-e) c := by
  rcases h with ⟨-, h3, h4⟩ | h | ⟨-, h3⟩ | h
  · rw [h3] at h0; exact absurd h4 h0
  · exact h
  · rw [h3] at h2; exact absurd h2 (by decide)
  · rcases h with h | h | h | h | h | h | h | h | h | h <;> (rw [h.2] at h1 h2; first | exact absurd h1 (by decide) | exact absurd h2 (by decide))
theorem jt_tr_not {e c n : Int32} (h : jt_tr e c n) (h0 : e = -128) : c = 126 := by
  subst h0
  rcases h with ⟨-, h3, h4⟩ | h | ⟨h3, -⟩ | h
  · rw [← h3] at h4; exact absurd h4 (by decide)
  · exact absurd (jt_wd_in h).2.1 (by decide)
  · exact h3
  · rcases h with h | h | h | h | h | h | h | h | h | h <;> exact absurd h.2 (by decide)
theorem jt_tr_op {e c n : Int32} (h : jt_tr e c n) (h0 : ¬ 0 ≤ e) (h1 : ¬ (100 ≤ -e ∧ -e ≤ 106)) (h2 : ¬ e = -128) : c ≠ 126 ∧ ¬ (97 ≤ c ∧ c ≤ 122) ∧ ∀ a b, jw_two c a b = jt_join (-e) a b := by
  rcases h with ⟨-, h3, h4⟩ | h | ⟨-, h3⟩ | h
  · rw [h3] at h0; exact absurd h4 h0
  · exact absurd ⟨(jt_wd_in h).1, (jt_wd_in h).2.1⟩ h1
  · exact absurd h3 h2
  · rcases h with h | h | h | h | h | h | h | h | h | h <;> (rw [h.1, h.2]; exact ⟨by decide, by decide, fun a b => rfl⟩)
set_option maxHeartbeats 4000000 in
set_option maxRecDepth 100000 in
theorem ev_Poll_join {d : Nat} {h : jx_H} {Q : Option jx_V → jx_H → Prop} {c x y : Int32} (hQ : Q (some (jv_i (jt_join c x y))) h) : jx_Ev jm_Poll_join (d) 0 0 false 0 [jv_i c, jv_i x, jv_i y] h Q := by
  show jx_W (jm_Poll_join, d, 0, 0, false, 0, _) Q 0 0 0 [some (jv_i c), some (jv_i x), some (jv_i y)] [] _
  refine jr_iload rfl rfl ?_
  refine jr_lsw rfl ?_
  refine ⟨fun c1 => ?_, fun n1_37 => ?_⟩
  · refine jr_iload rfl rfl ?_
    refine jr_if_ne rfl (fun c23 => ?_) (fun c23 => ?_)
    · refine jr_iload rfl rfl ?_
      refine jr_iload rfl rfl ?_
      refine jr_irem rfl (by assumption) ?_
      refine jr_iret rfl rfl (Nat.zero_le _) (Nat.zero_le _) ?_
      rw [jt_join, if_pos c1] at hQ
      first | exact hQ | exact jq_pos hQ (by assumption) | exact jq_neg hQ (by assumption) | exact jq_pos (jq_pos hQ (by assumption)) (by assumption) | exact jq_neg (jq_pos hQ (by assumption)) (by assumption) | exact jq_pos (jq_neg hQ (by assumption)) (by assumption) | exact jq_neg (jq_neg hQ (by assumption)) (by assumption)
    · refine jr_ic rfl ?_
      refine jr_goto rfl ?_
      refine jr_iret rfl rfl (Nat.zero_le _) (Nat.zero_le _) ?_
      rw [jt_join, if_pos c1] at hQ
      first | exact hQ | exact jq_pos hQ (by assumption) | exact jq_neg hQ (by assumption) | exact jq_pos (jq_pos hQ (by assumption)) (by assumption) | exact jq_neg (jq_pos hQ (by assumption)) (by assumption) | exact jq_pos (jq_neg hQ (by assumption)) (by assumption) | exact jq_neg (jq_neg hQ (by assumption)) (by assumption)
  · skip
    refine ⟨fun c1 => ?_, fun n1_42 => ?_⟩
    · refine jr_iload rfl rfl ?_
      refine jr_iload rfl rfl ?_
      refine jr_imul rfl ?_
      refine jr_iret rfl rfl (Nat.zero_le _) (Nat.zero_le _) ?_
      rw [jt_join, if_neg (show ¬ c.toInt = 37 by omega), if_pos c1] at hQ
      first | exact hQ | exact jq_pos hQ (by assumption) | exact jq_neg hQ (by assumption) | exact jq_pos (jq_pos hQ (by assumption)) (by assumption) | exact jq_neg (jq_pos hQ (by assumption)) (by assumption) | exact jq_pos (jq_neg hQ (by assumption)) (by assumption) | exact jq_neg (jq_neg hQ (by assumption)) (by assumption)
    · skip
      refine ⟨fun c1 => ?_, fun n1_43 => ?_⟩
      · refine jr_iload rfl rfl ?_
        refine jr_iload rfl rfl ?_
        refine jr_iadd rfl ?_
        refine jr_iret rfl rfl (Nat.zero_le _) (Nat.zero_le _) ?_
        rw [jt_join, if_neg (show ¬ c.toInt = 37 by omega), if_neg (show ¬ c.toInt = 42 by omega), if_pos c1] at hQ
        first | exact hQ | exact jq_pos hQ (by assumption) | exact jq_neg hQ (by assumption) | exact jq_pos (jq_pos hQ (by assumption)) (by assumption) | exact jq_neg (jq_pos hQ (by assumption)) (by assumption) | exact jq_pos (jq_neg hQ (by assumption)) (by assumption) | exact jq_neg (jq_neg hQ (by assumption)) (by assumption)
      · skip
        refine ⟨fun c1 => ?_, fun n1_45 => ?_⟩
        · refine jr_iload rfl rfl ?_
          refine jr_iload rfl rfl ?_
          refine jr_isub rfl ?_
          refine jr_iret rfl rfl (Nat.zero_le _) (Nat.zero_le _) ?_
          rw [jt_join, if_neg (show ¬ c.toInt = 37 by omega), if_neg (show ¬ c.toInt = 42 by omega), if_neg (show ¬ c.toInt = 43 by omega), if_pos c1] at hQ
          first | exact hQ | exact jq_pos hQ (by assumption) | exact jq_neg hQ (by assumption) | exact jq_pos (jq_pos hQ (by assumption)) (by assumption) | exact jq_neg (jq_pos hQ (by assumption)) (by assumption) | exact jq_pos (jq_neg hQ (by assumption)) (by assumption) | exact jq_neg (jq_neg hQ (by assumption)) (by assumption)
        · skip
          refine ⟨fun c1 => ?_, fun n1_47 => ?_⟩
          · refine jr_iload rfl rfl ?_
            refine jr_if_ne rfl (fun c15 => ?_) (fun c15 => ?_)
            · refine jr_iload rfl rfl ?_
              refine jr_iload rfl rfl ?_
              refine jr_idiv rfl (by assumption) ?_
              refine jr_iret rfl rfl (Nat.zero_le _) (Nat.zero_le _) ?_
              rw [jt_join, if_neg (show ¬ c.toInt = 37 by omega), if_neg (show ¬ c.toInt = 42 by omega), if_neg (show ¬ c.toInt = 43 by omega), if_neg (show ¬ c.toInt = 45 by omega), if_pos c1] at hQ
              first | exact hQ | exact jq_pos hQ (by assumption) | exact jq_neg hQ (by assumption) | exact jq_pos (jq_pos hQ (by assumption)) (by assumption) | exact jq_neg (jq_pos hQ (by assumption)) (by assumption) | exact jq_pos (jq_neg hQ (by assumption)) (by assumption) | exact jq_neg (jq_neg hQ (by assumption)) (by assumption)
            · refine jr_ic rfl ?_
              refine jr_goto rfl ?_
              refine jr_iret rfl rfl (Nat.zero_le _) (Nat.zero_le _) ?_
              rw [jt_join, if_neg (show ¬ c.toInt = 37 by omega), if_neg (show ¬ c.toInt = 42 by omega), if_neg (show ¬ c.toInt = 43 by omega), if_neg (show ¬ c.toInt = 45 by omega), if_pos c1] at hQ
              first | exact hQ | exact jq_pos hQ (by assumption) | exact jq_neg hQ (by assumption) | exact jq_pos (jq_pos hQ (by assumption)) (by assumption) | exact jq_neg (jq_pos hQ (by assumption)) (by assumption) | exact jq_pos (jq_neg hQ (by assumption)) (by assumption) | exact jq_neg (jq_neg hQ (by assumption)) (by assumption)
          · skip
            refine ⟨fun c1 => ?_, fun n1_60 => ?_⟩
            · refine jr_iload rfl rfl ?_
              refine jr_iload rfl rfl ?_
              refine jr_icmp_ge rfl (fun c32 => ?_) (fun c32 => ?_)
              · refine jr_ic rfl ?_
                refine jr_iret rfl rfl (Nat.zero_le _) (Nat.zero_le _) ?_
                rw [jt_join, if_neg (show ¬ c.toInt = 37 by omega), if_neg (show ¬ c.toInt = 42 by omega), if_neg (show ¬ c.toInt = 43 by omega), if_neg (show ¬ c.toInt = 45 by omega), if_neg (show ¬ c.toInt = 47 by omega), if_pos c1] at hQ
                first | exact hQ | exact jq_pos hQ (by assumption) | exact jq_neg hQ (by assumption) | exact jq_pos (jq_pos hQ (by assumption)) (by assumption) | exact jq_neg (jq_pos hQ (by assumption)) (by assumption) | exact jq_pos (jq_neg hQ (by assumption)) (by assumption) | exact jq_neg (jq_neg hQ (by assumption)) (by assumption)
              · refine jr_ic rfl ?_
                refine jr_goto rfl ?_
                refine jr_iret rfl rfl (Nat.zero_le _) (Nat.zero_le _) ?_
                rw [jt_join, if_neg (show ¬ c.toInt = 37 by omega), if_neg (show ¬ c.toInt = 42 by omega), if_neg (show ¬ c.toInt = 43 by omega), if_neg (show ¬ c.toInt = 45 by omega), if_neg (show ¬ c.toInt = 47 by omega), if_pos c1] at hQ
                first | exact hQ | exact jq_pos hQ (by assumption) | exact jq_neg hQ (by assumption) | exact jq_pos (jq_pos hQ (by assumption)) (by assumption) | exact jq_neg (jq_pos hQ (by assumption)) (by assumption) | exact jq_pos (jq_neg hQ (by assumption)) (by assumption) | exact jq_neg (jq_neg hQ (by assumption)) (by assumption)
            · skip
              refine ⟨fun c1 => ?_, fun n1_61 => ?_⟩
              · refine jr_iload rfl rfl ?_
                refine jr_iload rfl rfl ?_
                refine jr_icmp_ne rfl (fun c46 => ?_) (fun c46 => ?_)
                · refine jr_ic rfl ?_
                  refine jr_iret rfl rfl (Nat.zero_le _) (Nat.zero_le _) ?_
                  rw [jt_join, if_neg (show ¬ c.toInt = 37 by omega), if_neg (show ¬ c.toInt = 42 by omega), if_neg (show ¬ c.toInt = 43 by omega), if_neg (show ¬ c.toInt = 45 by omega), if_neg (show ¬ c.toInt = 47 by omega), if_neg (show ¬ c.toInt = 60 by omega), if_pos c1] at hQ
                  first | exact hQ | exact jq_pos hQ (by assumption) | exact jq_neg hQ (by assumption) | exact jq_pos (jq_pos hQ (by assumption)) (by assumption) | exact jq_neg (jq_pos hQ (by assumption)) (by assumption) | exact jq_pos (jq_neg hQ (by assumption)) (by assumption) | exact jq_neg (jq_neg hQ (by assumption)) (by assumption)
                · refine jr_ic rfl ?_
                  refine jr_goto rfl ?_
                  refine jr_iret rfl rfl (Nat.zero_le _) (Nat.zero_le _) ?_
                  rw [jt_join, if_neg (show ¬ c.toInt = 37 by omega), if_neg (show ¬ c.toInt = 42 by omega), if_neg (show ¬ c.toInt = 43 by omega), if_neg (show ¬ c.toInt = 45 by omega), if_neg (show ¬ c.toInt = 47 by omega), if_neg (show ¬ c.toInt = 60 by omega), if_pos c1] at hQ
                  first | exact hQ | exact jq_pos hQ (by assumption) | exact jq_neg hQ (by assumption) | exact jq_pos (jq_pos hQ (by assumption)) (by assumption) | exact jq_neg (jq_pos hQ (by assumption)) (by assumption) | exact jq_pos (jq_neg hQ (by assumption)) (by assumption) | exact jq_neg (jq_neg hQ (by assumption)) (by assumption)
              · skip
                refine ⟨fun c1 => ?_, fun n1_62 => ?_⟩
                · refine jr_iload rfl rfl ?_
                  refine jr_iload rfl rfl ?_
                  refine jr_icmp_le rfl (fun c39 => ?_) (fun c39 => ?_)
                  · refine jr_ic rfl ?_
                    refine jr_iret rfl rfl (Nat.zero_le _) (Nat.zero_le _) ?_
                    rw [jt_join, if_neg (show ¬ c.toInt = 37 by omega), if_neg (show ¬ c.toInt = 42 by omega), if_neg (show ¬ c.toInt = 43 by omega), if_neg (show ¬ c.toInt = 45 by omega), if_neg (show ¬ c.toInt = 47 by omega), if_neg (show ¬ c.toInt = 60 by omega), if_neg (show ¬ c.toInt = 61 by omega), if_pos c1] at hQ
                    first | exact hQ | exact jq_pos hQ (by assumption) | exact jq_neg hQ (by assumption) | exact jq_pos (jq_pos hQ (by assumption)) (by assumption) | exact jq_neg (jq_pos hQ (by assumption)) (by assumption) | exact jq_pos (jq_neg hQ (by assumption)) (by assumption) | exact jq_neg (jq_neg hQ (by assumption)) (by assumption)
                  · refine jr_ic rfl ?_
                    refine jr_goto rfl ?_
                    refine jr_iret rfl rfl (Nat.zero_le _) (Nat.zero_le _) ?_
                    rw [jt_join, if_neg (show ¬ c.toInt = 37 by omega), if_neg (show ¬ c.toInt = 42 by omega), if_neg (show ¬ c.toInt = 43 by omega), if_neg (show ¬ c.toInt = 45 by omega), if_neg (show ¬ c.toInt = 47 by omega), if_neg (show ¬ c.toInt = 60 by omega), if_neg (show ¬ c.toInt = 61 by omega), if_pos c1] at hQ
                    first | exact hQ | exact jq_pos hQ (by assumption) | exact jq_neg hQ (by assumption) | exact jq_pos (jq_pos hQ (by assumption)) (by assumption) | exact jq_neg (jq_pos hQ (by assumption)) (by assumption) | exact jq_pos (jq_neg hQ (by assumption)) (by assumption) | exact jq_neg (jq_neg hQ (by assumption)) (by assumption)
                · skip
                  refine ⟨fun c1 => ?_, fun n1_119 => ?_⟩
                  · refine jr_iload rfl rfl ?_
                    refine jr_if_eq rfl (fun c52 => ?_) (fun c52 => ?_)
                    · refine jr_ic rfl ?_
                      refine jr_iret rfl rfl (Nat.zero_le _) (Nat.zero_le _) ?_
                      rw [jt_join, if_neg (show ¬ c.toInt = 37 by omega), if_neg (show ¬ c.toInt = 42 by omega), if_neg (show ¬ c.toInt = 43 by omega), if_neg (show ¬ c.toInt = 45 by omega), if_neg (show ¬ c.toInt = 47 by omega), if_neg (show ¬ c.toInt = 60 by omega), if_neg (show ¬ c.toInt = 61 by omega), if_neg (show ¬ c.toInt = 62 by omega), if_pos c1] at hQ
                      first | exact hQ | exact jq_pos hQ (by assumption) | exact jq_neg hQ (by assumption) | exact jq_pos (jq_pos hQ (by assumption)) (by assumption) | exact jq_neg (jq_pos hQ (by assumption)) (by assumption) | exact jq_pos (jq_neg hQ (by assumption)) (by assumption) | exact jq_neg (jq_neg hQ (by assumption)) (by assumption)
                    · refine jr_iload rfl rfl ?_
                      refine jr_if_eq rfl (fun c54 => ?_) (fun c54 => ?_)
                      · refine jr_ic rfl ?_
                        refine jr_iret rfl rfl (Nat.zero_le _) (Nat.zero_le _) ?_
                        rw [jt_join, if_neg (show ¬ c.toInt = 37 by omega), if_neg (show ¬ c.toInt = 42 by omega), if_neg (show ¬ c.toInt = 43 by omega), if_neg (show ¬ c.toInt = 45 by omega), if_neg (show ¬ c.toInt = 47 by omega), if_neg (show ¬ c.toInt = 60 by omega), if_neg (show ¬ c.toInt = 61 by omega), if_neg (show ¬ c.toInt = 62 by omega), if_pos c1] at hQ
                        first | exact hQ | exact jq_pos hQ (by assumption) | exact jq_neg hQ (by assumption) | exact jq_pos (jq_pos hQ (by assumption)) (by assumption) | exact jq_neg (jq_pos hQ (by assumption)) (by assumption) | exact jq_pos (jq_neg hQ (by assumption)) (by assumption) | exact jq_neg (jq_neg hQ (by assumption)) (by assumption)
                      · refine jr_ic rfl ?_
                        refine jr_goto rfl ?_
                        refine jr_iret rfl rfl (Nat.zero_le _) (Nat.zero_le _) ?_
                        rw [jt_join, if_neg (show ¬ c.toInt = 37 by omega), if_neg (show ¬ c.toInt = 42 by omega), if_neg (show ¬ c.toInt = 43 by omega), if_neg (show ¬ c.toInt = 45 by omega), if_neg (show ¬ c.toInt = 47 by omega), if_neg (show ¬ c.toInt = 60 by omega), if_neg (show ¬ c.toInt = 61 by omega), if_neg (show ¬ c.toInt = 62 by omega), if_pos c1] at hQ
                        first | exact hQ | exact jq_pos hQ (by assumption) | exact jq_neg hQ (by assumption) | exact jq_pos (jq_pos hQ (by assumption)) (by assumption) | exact jq_neg (jq_pos hQ (by assumption)) (by assumption) | exact jq_pos (jq_neg hQ (by assumption)) (by assumption) | exact jq_neg (jq_neg hQ (by assumption)) (by assumption)
                  · skip
                    refine jr_iload rfl rfl ?_
                    refine jr_if_ne rfl (fun c60 => ?_) (fun c60 => ?_)
                    · refine jr_ic rfl ?_
                      refine jr_goto rfl ?_
                      refine jr_iret rfl rfl (Nat.zero_le _) (Nat.zero_le _) ?_
                      rw [jt_join, if_neg (show ¬ c.toInt = 37 by omega), if_neg (show ¬ c.toInt = 42 by omega), if_neg (show ¬ c.toInt = 43 by omega), if_neg (show ¬ c.toInt = 45 by omega), if_neg (show ¬ c.toInt = 47 by omega), if_neg (show ¬ c.toInt = 60 by omega), if_neg (show ¬ c.toInt = 61 by omega), if_neg (show ¬ c.toInt = 62 by omega), if_neg (show ¬ c.toInt = 119 by omega)] at hQ
                      first | exact hQ | exact jq_pos hQ (by assumption) | exact jq_neg hQ (by assumption) | exact jq_pos (jq_pos hQ (by assumption)) (by assumption) | exact jq_neg (jq_pos hQ (by assumption)) (by assumption) | exact jq_pos (jq_neg hQ (by assumption)) (by assumption) | exact jq_neg (jq_neg hQ (by assumption)) (by assumption)
                    · refine jr_iload rfl rfl ?_
                      refine jr_if_eq rfl (fun c62 => ?_) (fun c62 => ?_)
                      · refine jr_ic rfl ?_
                        refine jr_iret rfl rfl (Nat.zero_le _) (Nat.zero_le _) ?_
                        rw [jt_join, if_neg (show ¬ c.toInt = 37 by omega), if_neg (show ¬ c.toInt = 42 by omega), if_neg (show ¬ c.toInt = 43 by omega), if_neg (show ¬ c.toInt = 45 by omega), if_neg (show ¬ c.toInt = 47 by omega), if_neg (show ¬ c.toInt = 60 by omega), if_neg (show ¬ c.toInt = 61 by omega), if_neg (show ¬ c.toInt = 62 by omega), if_neg (show ¬ c.toInt = 119 by omega)] at hQ
                        first | exact hQ | exact jq_pos hQ (by assumption) | exact jq_neg hQ (by assumption) | exact jq_pos (jq_pos hQ (by assumption)) (by assumption) | exact jq_neg (jq_pos hQ (by assumption)) (by assumption) | exact jq_pos (jq_neg hQ (by assumption)) (by assumption) | exact jq_neg (jq_neg hQ (by assumption)) (by assumption)
                      · refine jr_ic rfl ?_
                        refine jr_goto rfl ?_
                        refine jr_iret rfl rfl (Nat.zero_le _) (Nat.zero_le _) ?_
                        rw [jt_join, if_neg (show ¬ c.toInt = 37 by omega), if_neg (show ¬ c.toInt = 42 by omega), if_neg (show ¬ c.toInt = 43 by omega), if_neg (show ¬ c.toInt = 45 by omega), if_neg (show ¬ c.toInt = 47 by omega), if_neg (show ¬ c.toInt = 60 by omega), if_neg (show ¬ c.toInt = 61 by omega), if_neg (show ¬ c.toInt = 62 by omega), if_neg (show ¬ c.toInt = 119 by omega)] at hQ
                        first | exact hQ | exact jq_pos hQ (by assumption) | exact jq_neg hQ (by assumption) | exact jq_pos (jq_pos hQ (by assumption)) (by assumption) | exact jq_neg (jq_pos hQ (by assumption)) (by assumption) | exact jq_pos (jq_neg hQ (by assumption)) (by assumption) | exact jq_neg (jq_neg hQ (by assumption)) (by assumption)

set_option maxHeartbeats 4000000 in
set_option maxRecDepth 100000 in
theorem ev_Poll_fact1 {d : Nat} {h : jx_H} {Q : Option jx_V → jx_H → Prop} {kd : Int32} {p l k : Nat} (hp : p < 5) (hl : l < 32) (hcal : jh_M h 5 0 5 = k + 1) (hQ : Q (some (jv_i (jt_fact (jh_I h 5 0 7) (nI l) (jh_I h 40 0 (p * 32 + l)) (jh_I h 41 0 (p * 32 + l)) (jh_I h 5 0 9 + nI l) (jh_I h 5 0 8) (jh_I h 32 k p) kd))) h) : jx_Ev jm_Poll_factOf (d) 0 0 false 0 [jv_r 5 0, jv_i kd, jv_i (nI p), jv_i (nI l)] h Q := by
  show jx_W (jm_Poll_factOf, d, 0, 0, false, 0, _) Q 0 0 0 [some (jv_r 5 0), some (jv_i kd), some (jv_i (nI p)), some (jv_i (nI l)), none] [] _
  refine jr_iload rfl rfl ?_
  refine jr_if_lt rfl (fun z => absurd z (nI_pos (by omega))) (fun _ => ?_)
  refine jr_iload rfl rfl ?_
  refine jr_ic rfl ?_
  refine jr_icmp_ge rfl (fun z => absurd z (nI_ge (a := p) (b := 5) hp (by decide))) (fun _ => ?_)
  refine jr_iload rfl rfl ?_
  refine jr_if_lt rfl (fun z => absurd z (nI_pos (by omega))) (fun _ => ?_)
  refine jr_iload rfl rfl ?_
  refine jr_ic rfl ?_
  refine jr_icmp_ge rfl (fun z => absurd z (nI_ge (a := l) (b := 32) hl (by decide))) (fun _ => ?_)
  refine jr_ic rfl ?_
  refine jr_goto rfl ?_
  refine jr_ist4 rfl rfl ?_
  refine jr_iload rfl rfl ?_
  refine jr_tsw rfl ?_
  refine ⟨fun c15 => ?_, fun n15_100 => ?_⟩
  · refine jr_aload rfl rfl ?_
    refine jr_getI rfl rfl ?_
    refine jr_iret rfl rfl (Nat.zero_le _) (Nat.zero_le _) ?_
    rw [jt_fact, if_pos c15] at hQ
    first | exact hQ | exact jq_pos hQ (by assumption) | exact jq_neg hQ (by assumption) | exact jq_pos (jq_pos hQ (by assumption)) (by assumption) | exact jq_neg (jq_pos hQ (by assumption)) (by assumption) | exact jq_pos (jq_neg hQ (by assumption)) (by assumption) | exact jq_neg (jq_neg hQ (by assumption)) (by assumption)
  · skip
    refine ⟨fun c15 => ?_, fun n15_101 => ?_⟩
    · refine jr_iload rfl rfl ?_
      refine jr_iret rfl rfl (Nat.zero_le _) (Nat.zero_le _) ?_
      rw [jt_fact, if_neg (show ¬ kd.toInt = 100 by omega), if_pos c15] at hQ
      first | exact hQ | exact jq_pos hQ (by assumption) | exact jq_neg hQ (by assumption) | exact jq_pos (jq_pos hQ (by assumption)) (by assumption) | exact jq_neg (jq_pos hQ (by assumption)) (by assumption) | exact jq_pos (jq_neg hQ (by assumption)) (by assumption) | exact jq_neg (jq_neg hQ (by assumption)) (by assumption)
    · skip
      refine ⟨fun c15 => ?_, fun n15_102 => ?_⟩
      · refine jr_iload rfl rfl ?_
        refine jr_if_eq rfl (fun z => absurd z (by decide)) (fun _ => ?_)
        refine jr_aload rfl rfl ?_
        refine jr_getR rfl rfl rfl rfl (Or.inl rfl) ?_
        refine jr_iload rfl rfl ?_
        refine jr_ic rfl ?_
        refine jr_imul rfl ?_
        refine jr_iload rfl rfl ?_
        refine jr_iadd rfl ?_
        refine jr_iald (len := 160) rfl rfl (jn_add (jn_mul rfl (show _ = nI 32 from rfl)) rfl) (by omega) ?_
        refine jr_goto rfl ?_
        refine jr_iret rfl rfl (Nat.zero_le _) (Nat.zero_le _) ?_
        rw [jt_fact, if_neg (show ¬ kd.toInt = 100 by omega), if_neg (show ¬ kd.toInt = 101 by omega), if_pos c15] at hQ
        first | exact hQ | exact jq_pos hQ (by assumption) | exact jq_neg hQ (by assumption) | exact jq_pos (jq_pos hQ (by assumption)) (by assumption) | exact jq_neg (jq_pos hQ (by assumption)) (by assumption) | exact jq_pos (jq_neg hQ (by assumption)) (by assumption) | exact jq_neg (jq_neg hQ (by assumption)) (by assumption)
      · skip
        refine ⟨fun c15 => ?_, fun n15_103 => ?_⟩
        · refine jr_iload rfl rfl ?_
          refine jr_if_eq rfl (fun z => absurd z (by decide)) (fun _ => ?_)
          refine jr_aload rfl rfl ?_
          refine jr_getR rfl rfl rfl rfl (Or.inl rfl) ?_
          refine jr_iload rfl rfl ?_
          refine jr_ic rfl ?_
          refine jr_imul rfl ?_
          refine jr_iload rfl rfl ?_
          refine jr_iadd rfl ?_
          refine jr_iald (len := 160) rfl rfl (jn_add (jn_mul rfl (show _ = nI 32 from rfl)) rfl) (by omega) ?_
          refine jr_goto rfl ?_
          refine jr_iret rfl rfl (Nat.zero_le _) (Nat.zero_le _) ?_
          rw [jt_fact, if_neg (show ¬ kd.toInt = 100 by omega), if_neg (show ¬ kd.toInt = 101 by omega), if_neg (show ¬ kd.toInt = 102 by omega), if_pos c15] at hQ
          first | exact hQ | exact jq_pos hQ (by assumption) | exact jq_neg hQ (by assumption) | exact jq_pos (jq_pos hQ (by assumption)) (by assumption) | exact jq_neg (jq_pos hQ (by assumption)) (by assumption) | exact jq_pos (jq_neg hQ (by assumption)) (by assumption) | exact jq_neg (jq_neg hQ (by assumption)) (by assumption)
        · skip
          refine ⟨fun c15 => ?_, fun n15_104 => ?_⟩
          · refine jr_aload rfl rfl ?_
            refine jr_getI rfl rfl ?_
            refine jr_iload rfl rfl ?_
            refine jr_iadd rfl ?_
            refine jr_iret rfl rfl (Nat.zero_le _) (Nat.zero_le _) ?_
            rw [jt_fact, if_neg (show ¬ kd.toInt = 100 by omega), if_neg (show ¬ kd.toInt = 101 by omega), if_neg (show ¬ kd.toInt = 102 by omega), if_neg (show ¬ kd.toInt = 103 by omega), if_pos c15] at hQ
            first | exact hQ | exact jq_pos hQ (by assumption) | exact jq_neg hQ (by assumption) | exact jq_pos (jq_pos hQ (by assumption)) (by assumption) | exact jq_neg (jq_pos hQ (by assumption)) (by assumption) | exact jq_pos (jq_neg hQ (by assumption)) (by assumption) | exact jq_neg (jq_neg hQ (by assumption)) (by assumption)
          · skip
            refine ⟨fun c15 => ?_, fun n15_105 => ?_⟩
            · refine jr_aload rfl rfl ?_
              refine jr_getI rfl rfl ?_
              refine jr_iret rfl rfl (Nat.zero_le _) (Nat.zero_le _) ?_
              rw [jt_fact, if_neg (show ¬ kd.toInt = 100 by omega), if_neg (show ¬ kd.toInt = 101 by omega), if_neg (show ¬ kd.toInt = 102 by omega), if_neg (show ¬ kd.toInt = 103 by omega), if_neg (show ¬ kd.toInt = 104 by omega), if_pos c15] at hQ
              first | exact hQ | exact jq_pos hQ (by assumption) | exact jq_neg hQ (by assumption) | exact jq_pos (jq_pos hQ (by assumption)) (by assumption) | exact jq_neg (jq_pos hQ (by assumption)) (by assumption) | exact jq_pos (jq_neg hQ (by assumption)) (by assumption) | exact jq_neg (jq_neg hQ (by assumption)) (by assumption)
            · skip
              refine jr_iload rfl rfl ?_
              refine jr_if_eq rfl (fun z => absurd z (by decide)) (fun _ => ?_)
              refine jr_aload rfl rfl ?_
              refine jr_getM rfl rfl rfl rfl hcal ?_
              refine jr_getR rfl rfl rfl rfl (Or.inl rfl) ?_
              refine jr_iload rfl rfl ?_
              refine jr_iald (len := 5) rfl rfl rfl (by omega) ?_
              refine jr_goto rfl ?_
              refine jr_iret rfl rfl (Nat.zero_le _) (Nat.zero_le _) ?_
              rw [jt_fact, if_neg (show ¬ kd.toInt = 100 by omega), if_neg (show ¬ kd.toInt = 101 by omega), if_neg (show ¬ kd.toInt = 102 by omega), if_neg (show ¬ kd.toInt = 103 by omega), if_neg (show ¬ kd.toInt = 104 by omega), if_neg (show ¬ kd.toInt = 105 by omega)] at hQ
              first | exact hQ | exact jq_pos hQ (by assumption) | exact jq_neg hQ (by assumption) | exact jq_pos (jq_pos hQ (by assumption)) (by assumption) | exact jq_neg (jq_pos hQ (by assumption)) (by assumption) | exact jq_pos (jq_neg hQ (by assumption)) (by assumption) | exact jq_neg (jq_neg hQ (by assumption)) (by assumption)

set_option maxHeartbeats 4000000 in
set_option maxRecDepth 100000 in
theorem ev_Poll_fact0 {d : Nat} {h : jx_H} {Q : Option jx_V → jx_H → Prop} {kd l : Int32} (hQ : Q (some (jv_i (jt_fact (jh_I h 5 0 7) l 0 0 (jh_I h 5 0 9 + l) (jh_I h 5 0 8) 0 kd))) h) : jx_Ev jm_Poll_factOf (d) 0 0 false 0 [jv_r 5 0, jv_i kd, jv_i (-1), jv_i l] h Q := by
  show jx_W (jm_Poll_factOf, d, 0, 0, false, 0, _) Q 0 0 0 [some (jv_r 5 0), some (jv_i kd), some (jv_i (-1)), some (jv_i l), none] [] _
  refine jr_iload rfl rfl ?_
  refine jr_if_lt rfl (fun _ => ?_) (fun z => absurd (by decide) z)
  refine jr_ic rfl ?_
  refine jr_ist4 rfl rfl ?_
  refine jr_iload rfl rfl ?_
  refine jr_tsw rfl ?_
  refine ⟨fun c15 => ?_, fun n15_100 => ?_⟩
  · refine jr_aload rfl rfl ?_
    refine jr_getI rfl rfl ?_
    refine jr_iret rfl rfl (Nat.zero_le _) (Nat.zero_le _) ?_
    rw [jt_fact, if_pos c15] at hQ
    first | exact hQ | exact jq_pos hQ (by assumption) | exact jq_neg hQ (by assumption) | exact jq_pos (jq_pos hQ (by assumption)) (by assumption) | exact jq_neg (jq_pos hQ (by assumption)) (by assumption) | exact jq_pos (jq_neg hQ (by assumption)) (by assumption) | exact jq_neg (jq_neg hQ (by assumption)) (by assumption)
  · skip
    refine ⟨fun c15 => ?_, fun n15_101 => ?_⟩
    · refine jr_iload rfl rfl ?_
      refine jr_iret rfl rfl (Nat.zero_le _) (Nat.zero_le _) ?_
      rw [jt_fact, if_neg (show ¬ kd.toInt = 100 by omega), if_pos c15] at hQ
      first | exact hQ | exact jq_pos hQ (by assumption) | exact jq_neg hQ (by assumption) | exact jq_pos (jq_pos hQ (by assumption)) (by assumption) | exact jq_neg (jq_pos hQ (by assumption)) (by assumption) | exact jq_pos (jq_neg hQ (by assumption)) (by assumption) | exact jq_neg (jq_neg hQ (by assumption)) (by assumption)
    · skip
      refine ⟨fun c15 => ?_, fun n15_102 => ?_⟩
      · refine jr_iload rfl rfl ?_
        refine jr_if_eq rfl (fun _ => ?_) (fun z => absurd (by decide) z)
        refine jr_ic rfl ?_
        refine jr_iret rfl rfl (Nat.zero_le _) (Nat.zero_le _) ?_
        rw [jt_fact, if_neg (show ¬ kd.toInt = 100 by omega), if_neg (show ¬ kd.toInt = 101 by omega), if_pos c15] at hQ
        first | exact hQ | exact jq_pos hQ (by assumption) | exact jq_neg hQ (by assumption) | exact jq_pos (jq_pos hQ (by assumption)) (by assumption) | exact jq_neg (jq_pos hQ (by assumption)) (by assumption) | exact jq_pos (jq_neg hQ (by assumption)) (by assumption) | exact jq_neg (jq_neg hQ (by assumption)) (by assumption)
      · skip
        refine ⟨fun c15 => ?_, fun n15_103 => ?_⟩
        · refine jr_iload rfl rfl ?_
          refine jr_if_eq rfl (fun _ => ?_) (fun z => absurd (by decide) z)
          refine jr_ic rfl ?_
          refine jr_iret rfl rfl (Nat.zero_le _) (Nat.zero_le _) ?_
          rw [jt_fact, if_neg (show ¬ kd.toInt = 100 by omega), if_neg (show ¬ kd.toInt = 101 by omega), if_neg (show ¬ kd.toInt = 102 by omega), if_pos c15] at hQ
          first | exact hQ | exact jq_pos hQ (by assumption) | exact jq_neg hQ (by assumption) | exact jq_pos (jq_pos hQ (by assumption)) (by assumption) | exact jq_neg (jq_pos hQ (by assumption)) (by assumption) | exact jq_pos (jq_neg hQ (by assumption)) (by assumption) | exact jq_neg (jq_neg hQ (by assumption)) (by assumption)
        · skip
          refine ⟨fun c15 => ?_, fun n15_104 => ?_⟩
          · refine jr_aload rfl rfl ?_
            refine jr_getI rfl rfl ?_
            refine jr_iload rfl rfl ?_
            refine jr_iadd rfl ?_
            refine jr_iret rfl rfl (Nat.zero_le _) (Nat.zero_le _) ?_
            rw [jt_fact, if_neg (show ¬ kd.toInt = 100 by omega), if_neg (show ¬ kd.toInt = 101 by omega), if_neg (show ¬ kd.toInt = 102 by omega), if_neg (show ¬ kd.toInt = 103 by omega), if_pos c15] at hQ
            first | exact hQ | exact jq_pos hQ (by assumption) | exact jq_neg hQ (by assumption) | exact jq_pos (jq_pos hQ (by assumption)) (by assumption) | exact jq_neg (jq_pos hQ (by assumption)) (by assumption) | exact jq_pos (jq_neg hQ (by assumption)) (by assumption) | exact jq_neg (jq_neg hQ (by assumption)) (by assumption)
          · skip
            refine ⟨fun c15 => ?_, fun n15_105 => ?_⟩
            · refine jr_aload rfl rfl ?_
              refine jr_getI rfl rfl ?_
              refine jr_iret rfl rfl (Nat.zero_le _) (Nat.zero_le _) ?_
              rw [jt_fact, if_neg (show ¬ kd.toInt = 100 by omega), if_neg (show ¬ kd.toInt = 101 by omega), if_neg (show ¬ kd.toInt = 102 by omega), if_neg (show ¬ kd.toInt = 103 by omega), if_neg (show ¬ kd.toInt = 104 by omega), if_pos c15] at hQ
              first | exact hQ | exact jq_pos hQ (by assumption) | exact jq_neg hQ (by assumption) | exact jq_pos (jq_pos hQ (by assumption)) (by assumption) | exact jq_neg (jq_pos hQ (by assumption)) (by assumption) | exact jq_pos (jq_neg hQ (by assumption)) (by assumption) | exact jq_neg (jq_neg hQ (by assumption)) (by assumption)
            · skip
              refine jr_iload rfl rfl ?_
              refine jr_if_eq rfl (fun _ => ?_) (fun z => absurd (by decide) z)
              refine jr_ic rfl ?_
              refine jr_iret rfl rfl (Nat.zero_le _) (Nat.zero_le _) ?_
              rw [jt_fact, if_neg (show ¬ kd.toInt = 100 by omega), if_neg (show ¬ kd.toInt = 101 by omega), if_neg (show ¬ kd.toInt = 102 by omega), if_neg (show ¬ kd.toInt = 103 by omega), if_neg (show ¬ kd.toInt = 104 by omega), if_neg (show ¬ kd.toInt = 105 by omega)] at hQ
              first | exact hQ | exact jq_pos hQ (by assumption) | exact jq_neg hQ (by assumption) | exact jq_pos (jq_pos hQ (by assumption)) (by assumption) | exact jq_neg (jq_pos hQ (by assumption)) (by assumption) | exact jq_pos (jq_neg hQ (by assumption)) (by assumption) | exact jq_neg (jq_neg hQ (by assumption)) (by assumption)

/-- the pile never runs short, nor over B -/
def jw_okb (B : Nat) (cd : Nat → Int32) : Nat → Nat → Nat → Prop
  | 0, _, m => m = 1
  | n + 1, k, m => (cd k = 126 ∧ 1 ≤ m ∧ jw_okb B cd n (k + 1) m) ∨ (cd k ≠ 126 ∧ (97 ≤ cd k ∧ cd k ≤ 122) ∧ m < B ∧ jw_okb B cd n (k + 1) (m + 1)) ∨ (cd k ≠ 126 ∧ ¬ (97 ≤ cd k ∧ cd k ≤ 122) ∧ 2 ≤ m ∧ jw_okb B cd n (k + 1) (m - 1))
theorem jw_okb_ok {B : Nat} (hB : B ≤ 60) {cd : Nat → Int32} : ∀ {n k m : Nat}, jw_okb B cd n k m → jw_ok cd n k m
  | 0, _, _, h => h
  | n + 1, k, m, h => by
    rcases h with ⟨h1, h2, h3⟩ | ⟨h1, h2, h3, h4⟩ | ⟨h1, h2, h3, h4⟩
    · exact Or.inl ⟨h1, h2, jw_okb_ok hB h3⟩
    · exact Or.inr (Or.inl ⟨h1, h2, by omega, jw_okb_ok hB h4⟩)
    · exact Or.inr (Or.inr ⟨h1, h2, h3, jw_okb_ok hB h4⟩)
set_option maxHeartbeats 4000000 in
set_option maxRecDepth 100000 in
theorem lp_Poll_value {d n0 : Nat} {Q : Option jx_V → jx_H → Prop} {h : jx_H} {cd nm : Nat → Int32} {ask : Int32 → Int32 → Int32} {fact : Int32 → Int32} {wh pp l : Int32} {c r E k m : Nat} {s : List Int32} {F : Nat → Int32} (n i : Nat) (hcal : jh_M h 5 0 5 = c + 1) (hrep : jh_M h 1 c 0 = r + 1) (hen : i + n = E) (hE : E ≤ 1700) (hcd : ∀ q, q < n → jt_tr (jh_I h 25 r (i + q)) (cd (k + q)) (nm (k + q))) (hok : jw_okb 40 cd n k m) (hm : m ≤ 40) (hs : s.length = m) (hF : jw_pl F s)
  (hf : ∀ (F : Nat → Int32) (kd : Int32) (Q : Option jx_V → jx_H → Prop), Q (some (jv_i (fact kd))) (ju_I h 37 0 F) → jx_Ev jm_Poll_factOf d 0 0 false 0 [jv_r 5 0, jv_i kd, jv_i pp, jv_i l] (ju_I h 37 0 F) Q) (hask : ∀ q, q < n → ∀ kd, jt_wd kd (cd (k + q)) → fact kd = ask (cd (k + q)) (nm (k + q))) (hask2 : ∀ n, ask 110 n = n) (hQ : ∀ F : Nat → Int32, Q (some (jv_i ((jw_evs cd nm ask n k s).headD 0))) (ju_I h 37 0 F)) : jx_W (jm_Poll_valueOf, d + 1, 0, 0, false, 0, n0) Q 0 0 22 [some (jv_r 5 0), some (jv_i wh), some (jv_i pp), some (jv_i l), some (jv_r 25 r), some (jv_i (nI E)), some (jv_i (nI m)), some (jv_i (nI i)), none] [] (ju_I h 37 0 F) := by
  refine jr_iload rfl rfl ?_
  refine jr_iload rfl rfl ?_
  refine jr_icmp_ge rfl (fun c24 => ?_) (fun c24 => ?_)
  · have hn0 : n = 0 := by have := jn_le (show nI E ≤ nI i from c24) (by omega) (by omega); omega
    subst hn0
    have hm1 : m = 1 := hok
    obtain ⟨x, rfl⟩ : ∃ x, s = [x] := by
      cases s with
      | nil => have : (0 : Nat) = m := hs; omega
      | cons x t =>
        cases t with
        | nil => exact ⟨x, rfl⟩
        | cons y t => have : t.length + 1 + 1 = m := hs; omega
    have hx : F 0 = x := hF.1
    subst hm1
    refine jr_iload rfl rfl ?_
    refine jr_if_le rfl (fun z => absurd z (by decide)) (fun _ => ?_)
    refine jr_aload rfl rfl ?_
    refine jr_getR rfl rfl rfl rfl (Or.inl rfl) ?_
    refine jr_ic rfl ?_
    refine jr_iald (len := 40) rfl rfl (show _ = nI 0 from rfl) (by decide) ?_
    refine jr_goto rfl ?_
    refine jr_iret rfl rfl (Nat.zero_le _) (Nat.zero_le _) ?_
    have e : jh_I (ju_I h 37 0 F) 37 0 0 = x := hx
    rw [e]
    exact hQ F
  · have hen1 : i < E := jn_nle (show ¬ nI E ≤ nI i from c24) (by omega) (by omega)
    obtain ⟨n, rfl⟩ : ∃ n', n = n' + 1 := ⟨n - 1, by omega⟩
    have ht : jt_tr (jh_I h 25 r i) (cd k) (nm k) := hcd 0 (by omega)
    have hcd' : ∀ q, q < n → jt_tr (jh_I h 25 r (i + 1 + q)) (cd (k + 1 + q)) (nm (k + 1 + q)) := by
      intro q hq
      have := hcd (q + 1) (by omega)
      rw [show i + 1 + q = i + (q + 1) by omega, show k + 1 + q = k + (q + 1) by omega]
      exact this
    have hask' : ∀ q, q < n → ∀ kd, jt_wd kd (cd (k + 1 + q)) → fact kd = ask (cd (k + 1 + q)) (nm (k + 1 + q)) := by
      intro q hq kd
      have := hask (q + 1) (by omega) kd
      rw [show k + 1 + q = k + (q + 1) by omega]
      exact this
    have hok : (cd k = 126 ∧ 1 ≤ m ∧ jw_okb 40 cd n (k + 1) m) ∨ (cd k ≠ 126 ∧ (97 ≤ cd k ∧ cd k ≤ 122) ∧ m < 40 ∧ jw_okb 40 cd n (k + 1) (m + 1)) ∨ (cd k ≠ 126 ∧ ¬ (97 ≤ cd k ∧ cd k ≤ 122) ∧ 2 ≤ m ∧ jw_okb 40 cd n (k + 1) (m - 1)) := hok
    refine jr_aload rfl rfl ?_
    refine jr_iload rfl rfl ?_
    refine jr_iald (len := 1700) rfl rfl rfl (by omega) ?_
    rw [show jh_I (ju_I h 37 0 F) 25 r i = jh_I h 25 r i from rfl]
    refine jr_ist8 rfl rfl ?_
    refine jr_iload rfl rfl ?_
    refine jr_if_ge rfl (fun c30 => ?_) (fun c30 => ?_)
    · obtain ⟨hc1, hc2⟩ := jt_tr_pos ht c30
      have hlet : cd k ≠ 126 ∧ 97 ≤ cd k ∧ cd k ≤ 122 := by rw [hc1]; decide
      have hok1 : m < 40 ∧ jw_okb 40 cd n (k + 1) (m + 1) := by
        rcases hok with ⟨h1, -⟩ | ⟨-, -, h1⟩ | ⟨-, h1, -⟩
        · exact absurd h1 hlet.1
        · exact h1
        · exact absurd hlet.2 h1
      obtain ⟨hm1, hok2⟩ := hok1
      refine jr_iload rfl rfl ?_
      refine jr_aload rfl rfl ?_
      refine jr_getR rfl rfl rfl rfl (Or.inl rfl) ?_
      refine jr_alen (so := 1) (len := 40) rfl rfl rfl rfl ?_
      refine jr_icmp_lt rfl (fun _ => ?_) (fun z => absurd (nI_lt hm1 (by omega)) z)
      refine jr_aload rfl rfl ?_
      refine jr_getR rfl rfl rfl rfl (Or.inl rfl) ?_
      refine jr_iload rfl rfl ?_
      refine jr_iload rfl rfl ?_
      refine jr_if_lt rfl (fun c46 => ?_) (fun c46 => ?_)
      · refine jr_aload rfl rfl ?_
        refine jr_iload rfl rfl ?_
        refine jr_ineg rfl ?_
        refine jr_iload rfl rfl ?_
        refine jr_iload rfl rfl ?_
        refine jr_cv3 (mc' := 0) (ms' := 0) rfl jm_Poll_factOf_n jm_Poll_factOf_f rfl rfl rfl rfl rfl rfl rfl (Nat.zero_le _) (Nat.zero_le _) ?_
        refine hf _ _ _ ?_
        refine jr_iast (len := 40) rfl rfl rfl (by omega) ?_
        refine jr_iinc6 rfl rfl ?_
        refine jr_goto rfl ?_
        refine jr_iinc7 rfl rfl ?_
        refine jr_goto rfl ?_
        exact absurd c46 (fun z => absurd z (Int32.not_lt.mpr c30))
      · refine jr_iload rfl rfl ?_
        refine jr_goto rfl ?_
        refine jr_iast (len := 40) rfl rfl rfl (by omega) ?_
        refine jr_iinc6 rfl rfl ?_
        refine jr_goto rfl ?_
        refine jr_iinc7 rfl rfl ?_
        refine jr_goto rfl ?_
        rw [show jh_I h 25 r i = ask (cd k) (nm k) by rw [hc1, hask2, ← hc2]]
        rw [jg_uu, jg_II, jn_S m, jn_S i]
        refine jr_drop 8 (lp_Poll_value n (i + 1) hcal hrep (by omega) hE hcd' hok2 (by omega) (s := _ :: s) (congrArg (· + 1) hs) (jw_pl_push hs hF) hf hask' hask2 (fun F' => ?_))
        have := hQ F'
        rw [jw_evs, jw_st_let hlet.1 hlet.2] at this
        exact this
    · refine jr_iload rfl rfl ?_
      refine jr_ineg rfl ?_
      refine jr_cs1 (mc' := 0) (ms' := 0) rfl jm_Poll_isWord_n jm_Poll_isWord_f rfl rfl rfl rfl rfl (Nat.zero_le _) (Nat.zero_le _) ?_
      show jx_W (jm_Poll_isWord, _, _, _, _, _, _) _ 0 0 0 [some _] [] _
      refine jr_iload rfl rfl ?_
      refine jr_ic rfl ?_
      refine jr_icmp_lt rfl (fun c2PollisWord => ?_) (fun c2PollisWord => ?_)
      · refine jr_ic rfl ?_
        refine jr_zret rfl rfl rfl (Nat.zero_le _) (Nat.zero_le _) ?_
        refine jr_if_eq rfl (fun _ => ?_) (fun z => absurd (by decide) z)
        refine jr_iload rfl rfl ?_
        refine jr_ic rfl ?_
        refine jr_icmp_ne rfl (fun c60 => ?_) (fun c60 => ?_)
        · obtain ⟨hc1, hc2, hc3⟩ := jt_tr_op ht c30 (fun z => absurd z.1 (Int32.not_le.mpr c2PollisWord)) (show ¬ jh_I h 25 r i = -128 from c60)
          have hok1 : 2 ≤ m ∧ jw_okb 40 cd n (k + 1) (m - 1) := by
            rcases hok with ⟨h1, -⟩ | ⟨-, h1, -⟩ | ⟨-, -, h1⟩
            · exact absurd h1 hc1
            · exact absurd h1 hc2
            · exact h1
          obtain ⟨hm1, hok2⟩ := hok1
          obtain ⟨y, x, t, rfl⟩ : ∃ y x t, s = y :: x :: t := by
            cases s with
            | nil => have : (0 : Nat) = m := hs; omega
            | cons y t =>
              cases t with
              | nil => have : (0 : Nat) + 1 = m := hs; omega
              | cons x t => exact ⟨y, x, t, rfl⟩
          have hs' : t.length + 1 + 1 = m := hs
          have hy : F (m - 1) = y := by rw [← hs', Nat.add_sub_cancel]; exact hF.1
          have hx : F (m - 1 - 1) = x := by rw [← hs', Nat.add_sub_cancel, Nat.add_sub_cancel]; exact hF.2.1
          refine jr_iload rfl rfl ?_
          refine jr_ic rfl ?_
          refine jr_icmp_ge rfl (fun _ => ?_) (fun z => absurd (nI_le hm1 (by omega)) z)
          refine jr_iinc6 rfl rfl ?_
          refine jr_aload rfl rfl ?_
          refine jr_getR rfl rfl rfl rfl (Or.inl rfl) ?_
          refine jr_iload rfl rfl ?_
          refine jr_ic rfl ?_
          refine jr_isub rfl ?_
          refine jr_iload rfl rfl ?_
          refine jr_ineg rfl ?_
          refine jr_aload rfl rfl ?_
          refine jr_getR rfl rfl rfl rfl (Or.inl rfl) ?_
          refine jr_iload rfl rfl ?_
          refine jr_ic rfl ?_
          refine jr_isub rfl ?_
          refine jr_iald (len := 40) rfl rfl (jn_sub (jn_dec (by omega)) (show _ = nI 1 from rfl) (by omega)) (by omega) ?_
          refine jr_aload rfl rfl ?_
          refine jr_getR rfl rfl rfl rfl (Or.inl rfl) ?_
          refine jr_iload rfl rfl ?_
          refine jr_iald (len := 40) rfl rfl (jn_dec (by omega)) (by omega) ?_
          refine jr_cs3 (mc' := 0) (ms' := 0) rfl jm_Poll_join_n jm_Poll_join_f rfl rfl rfl rfl rfl (Nat.zero_le _) (Nat.zero_le _) ?_
          refine ev_Poll_join ?_
          refine jr_iast (len := 40) rfl rfl (jn_sub (jn_dec (by omega)) (show _ = nI 1 from rfl) (by omega)) (by omega) ?_
          refine jr_iinc7 rfl rfl ?_
          refine jr_goto rfl ?_
          rw [jg_uu, jg_II, jn_S i, jn_dec (by omega), hx, hy, ← hc3]
          refine jr_drop 8 (lp_Poll_value n (i + 1) hcal hrep (by omega) hE hcd' hok2 (by omega) (s := _ :: t) (by show t.length + 1 = _; omega) (jw_pl_push (by omega) hF.2.2) hf hask' hask2 (fun F' => ?_))
          have := hQ F'
          rw [jw_evs, jw_st_two hc1 hc2] at this
          exact this
        · have hc := jt_tr_not ht (show jh_I h 25 r i = -128 from c60)
          have hok1 : 1 ≤ m ∧ jw_okb 40 cd n (k + 1) m := by
            rcases hok with ⟨-, h1⟩ | ⟨h1, -⟩ | ⟨h1, -⟩
            · exact h1
            · exact absurd hc h1
            · exact absurd hc h1
          obtain ⟨hm1, hok2⟩ := hok1
          obtain ⟨x, t, rfl⟩ : ∃ x t, s = x :: t := by
            cases s with
            | nil => have : (0 : Nat) = m := hs; omega
            | cons x t => exact ⟨x, t, rfl⟩
          have hs' : t.length + 1 = m := hs
          have hx : F (m - 1) = x := by rw [← hs', Nat.add_sub_cancel]; exact hF.1
          refine jr_iload rfl rfl ?_
          refine jr_ic rfl ?_
          refine jr_icmp_ge rfl (fun _ => ?_) (fun z => absurd (nI_le hm1 (by omega)) z)
          refine jr_aload rfl rfl ?_
          refine jr_getR rfl rfl rfl rfl (Or.inl rfl) ?_
          refine jr_iload rfl rfl ?_
          refine jr_ic rfl ?_
          refine jr_isub rfl ?_
          refine jr_aload rfl rfl ?_
          refine jr_getR rfl rfl rfl rfl (Or.inl rfl) ?_
          refine jr_iload rfl rfl ?_
          refine jr_ic rfl ?_
          refine jr_isub rfl ?_
          refine jr_iald (len := 40) rfl rfl (jn_sub rfl (show _ = nI 1 from rfl) (by omega)) (by omega) ?_
          refine jr_if_ne rfl (fun c77 => ?_) (fun c77 => ?_)
          · refine jr_ic rfl ?_
            refine jr_iast (len := 40) rfl rfl (jn_sub rfl (show _ = nI 1 from rfl) (by omega)) (by omega) ?_
            refine jr_goto rfl ?_
            refine jr_iinc7 rfl rfl ?_
            refine jr_goto rfl ?_
            have c77' : ¬ x = 0 := fun z => c77 (hx.trans z)
            have hv : (if x = 0 then (1 : Int32) else 0) = 0 := if_neg c77'
            rw [jg_uu, jg_II, jn_S]
            refine jr_drop 8 (lp_Poll_value n (i + 1) hcal hrep (by omega) hE hcd' hok2 (by omega) (s := (if x = 0 then 1 else 0) :: t) hs ?_ hf hask' hask2 (fun F' => ?_))
            · rw [hv]; exact jw_pl_push (by omega) hF.2
            · have := hQ F'
              rw [jw_evs, jw_st_not hc] at this
              exact this
          · refine jr_ic rfl ?_
            refine jr_goto rfl ?_
            refine jr_iast (len := 40) rfl rfl (jn_sub rfl (show _ = nI 1 from rfl) (by omega)) (by omega) ?_
            refine jr_goto rfl ?_
            refine jr_iinc7 rfl rfl ?_
            refine jr_goto rfl ?_
            have c77' : x = 0 := hx.symm.trans c77
            have hv : (if x = 0 then (1 : Int32) else 0) = 1 := if_pos c77'
            rw [jg_uu, jg_II, jn_S]
            refine jr_drop 8 (lp_Poll_value n (i + 1) hcal hrep (by omega) hE hcd' hok2 (by omega) (s := (if x = 0 then 1 else 0) :: t) hs ?_ hf hask' hask2 (fun F' => ?_))
            · rw [hv]; exact jw_pl_push (by omega) hF.2
            · have := hQ F'
              rw [jw_evs, jw_st_not hc] at this
              exact this
      · refine jr_iload rfl rfl ?_
        refine jr_ic rfl ?_
        refine jr_icmp_gt rfl (fun c5PollisWord => ?_) (fun c5PollisWord => ?_)
        · refine jr_ic rfl ?_
          refine jr_zret rfl rfl rfl (Nat.zero_le _) (Nat.zero_le _) ?_
          refine jr_if_eq rfl (fun _ => ?_) (fun z => absurd (by decide) z)
          refine jr_iload rfl rfl ?_
          refine jr_ic rfl ?_
          refine jr_icmp_ne rfl (fun c60 => ?_) (fun c60 => ?_)
          · obtain ⟨hc1, hc2, hc3⟩ := jt_tr_op ht c30 (fun z => absurd z.2 (Int32.not_le.mpr c5PollisWord)) (show ¬ jh_I h 25 r i = -128 from c60)
            have hok1 : 2 ≤ m ∧ jw_okb 40 cd n (k + 1) (m - 1) := by
              rcases hok with ⟨h1, -⟩ | ⟨-, h1, -⟩ | ⟨-, -, h1⟩
              · exact absurd h1 hc1
              · exact absurd h1 hc2
              · exact h1
            obtain ⟨hm1, hok2⟩ := hok1
            obtain ⟨y, x, t, rfl⟩ : ∃ y x t, s = y :: x :: t := by
              cases s with
              | nil => have : (0 : Nat) = m := hs; omega
              | cons y t =>
                cases t with
                | nil => have : (0 : Nat) + 1 = m := hs; omega
                | cons x t => exact ⟨y, x, t, rfl⟩
            have hs' : t.length + 1 + 1 = m := hs
            have hy : F (m - 1) = y := by rw [← hs', Nat.add_sub_cancel]; exact hF.1
            have hx : F (m - 1 - 1) = x := by rw [← hs', Nat.add_sub_cancel, Nat.add_sub_cancel]; exact hF.2.1
            refine jr_iload rfl rfl ?_
            refine jr_ic rfl ?_
            refine jr_icmp_ge rfl (fun _ => ?_) (fun z => absurd (nI_le hm1 (by omega)) z)
            refine jr_iinc6 rfl rfl ?_
            refine jr_aload rfl rfl ?_
            refine jr_getR rfl rfl rfl rfl (Or.inl rfl) ?_
            refine jr_iload rfl rfl ?_
            refine jr_ic rfl ?_
            refine jr_isub rfl ?_
            refine jr_iload rfl rfl ?_
            refine jr_ineg rfl ?_
            refine jr_aload rfl rfl ?_
            refine jr_getR rfl rfl rfl rfl (Or.inl rfl) ?_
            refine jr_iload rfl rfl ?_
            refine jr_ic rfl ?_
            refine jr_isub rfl ?_
            refine jr_iald (len := 40) rfl rfl (jn_sub (jn_dec (by omega)) (show _ = nI 1 from rfl) (by omega)) (by omega) ?_
            refine jr_aload rfl rfl ?_
            refine jr_getR rfl rfl rfl rfl (Or.inl rfl) ?_
            refine jr_iload rfl rfl ?_
            refine jr_iald (len := 40) rfl rfl (jn_dec (by omega)) (by omega) ?_
            refine jr_cs3 (mc' := 0) (ms' := 0) rfl jm_Poll_join_n jm_Poll_join_f rfl rfl rfl rfl rfl (Nat.zero_le _) (Nat.zero_le _) ?_
            refine ev_Poll_join ?_
            refine jr_iast (len := 40) rfl rfl (jn_sub (jn_dec (by omega)) (show _ = nI 1 from rfl) (by omega)) (by omega) ?_
            refine jr_iinc7 rfl rfl ?_
            refine jr_goto rfl ?_
            rw [jg_uu, jg_II, jn_S i, jn_dec (by omega), hx, hy, ← hc3]
            refine jr_drop 8 (lp_Poll_value n (i + 1) hcal hrep (by omega) hE hcd' hok2 (by omega) (s := _ :: t) (by show t.length + 1 = _; omega) (jw_pl_push (by omega) hF.2.2) hf hask' hask2 (fun F' => ?_))
            have := hQ F'
            rw [jw_evs, jw_st_two hc1 hc2] at this
            exact this
          · have hc := jt_tr_not ht (show jh_I h 25 r i = -128 from c60)
            have hok1 : 1 ≤ m ∧ jw_okb 40 cd n (k + 1) m := by
              rcases hok with ⟨-, h1⟩ | ⟨h1, -⟩ | ⟨h1, -⟩
              · exact h1
              · exact absurd hc h1
              · exact absurd hc h1
            obtain ⟨hm1, hok2⟩ := hok1
            obtain ⟨x, t, rfl⟩ : ∃ x t, s = x :: t := by
              cases s with
              | nil => have : (0 : Nat) = m := hs; omega
              | cons x t => exact ⟨x, t, rfl⟩
            have hs' : t.length + 1 = m := hs
            have hx : F (m - 1) = x := by rw [← hs', Nat.add_sub_cancel]; exact hF.1
            refine jr_iload rfl rfl ?_
            refine jr_ic rfl ?_
            refine jr_icmp_ge rfl (fun _ => ?_) (fun z => absurd (nI_le hm1 (by omega)) z)
            refine jr_aload rfl rfl ?_
            refine jr_getR rfl rfl rfl rfl (Or.inl rfl) ?_
            refine jr_iload rfl rfl ?_
            refine jr_ic rfl ?_
            refine jr_isub rfl ?_
            refine jr_aload rfl rfl ?_
            refine jr_getR rfl rfl rfl rfl (Or.inl rfl) ?_
            refine jr_iload rfl rfl ?_
            refine jr_ic rfl ?_
            refine jr_isub rfl ?_
            refine jr_iald (len := 40) rfl rfl (jn_sub rfl (show _ = nI 1 from rfl) (by omega)) (by omega) ?_
            refine jr_if_ne rfl (fun c77 => ?_) (fun c77 => ?_)
            · refine jr_ic rfl ?_
              refine jr_iast (len := 40) rfl rfl (jn_sub rfl (show _ = nI 1 from rfl) (by omega)) (by omega) ?_
              refine jr_goto rfl ?_
              refine jr_iinc7 rfl rfl ?_
              refine jr_goto rfl ?_
              have c77' : ¬ x = 0 := fun z => c77 (hx.trans z)
              have hv : (if x = 0 then (1 : Int32) else 0) = 0 := if_neg c77'
              rw [jg_uu, jg_II, jn_S]
              refine jr_drop 8 (lp_Poll_value n (i + 1) hcal hrep (by omega) hE hcd' hok2 (by omega) (s := (if x = 0 then 1 else 0) :: t) hs ?_ hf hask' hask2 (fun F' => ?_))
              · rw [hv]; exact jw_pl_push (by omega) hF.2
              · have := hQ F'
                rw [jw_evs, jw_st_not hc] at this
                exact this
            · refine jr_ic rfl ?_
              refine jr_goto rfl ?_
              refine jr_iast (len := 40) rfl rfl (jn_sub rfl (show _ = nI 1 from rfl) (by omega)) (by omega) ?_
              refine jr_goto rfl ?_
              refine jr_iinc7 rfl rfl ?_
              refine jr_goto rfl ?_
              have c77' : x = 0 := hx.symm.trans c77
              have hv : (if x = 0 then (1 : Int32) else 0) = 1 := if_pos c77'
              rw [jg_uu, jg_II, jn_S]
              refine jr_drop 8 (lp_Poll_value n (i + 1) hcal hrep (by omega) hE hcd' hok2 (by omega) (s := (if x = 0 then 1 else 0) :: t) hs ?_ hf hask' hask2 (fun F' => ?_))
              · rw [hv]; exact jw_pl_push (by omega) hF.2
              · have := hQ F'
                rw [jw_evs, jw_st_not hc] at this
                exact this
        · refine jr_ic rfl ?_
          refine jr_goto rfl ?_
          refine jr_zret rfl rfl rfl (Nat.zero_le _) (Nat.zero_le _) ?_
          refine jr_if_eq rfl (fun z => absurd z (by decide)) (fun _ => ?_)
          have hwd := jt_tr_word ht c30 (Int32.not_lt.mp c2PollisWord) (Int32.not_lt.mp c5PollisWord)
          have hlet := (jt_wd_in hwd).2.2
          have hok1 : m < 40 ∧ jw_okb 40 cd n (k + 1) (m + 1) := by
            rcases hok with ⟨h1, -⟩ | ⟨-, -, h1⟩ | ⟨-, h1, -⟩
            · exact absurd h1 hlet.1
            · exact h1
            · exact absurd hlet.2 h1
          obtain ⟨hm1, hok2⟩ := hok1
          refine jr_iload rfl rfl ?_
          refine jr_aload rfl rfl ?_
          refine jr_getR rfl rfl rfl rfl (Or.inl rfl) ?_
          refine jr_alen (so := 1) (len := 40) rfl rfl rfl rfl ?_
          refine jr_icmp_lt rfl (fun _ => ?_) (fun z => absurd (nI_lt hm1 (by omega)) z)
          refine jr_aload rfl rfl ?_
          refine jr_getR rfl rfl rfl rfl (Or.inl rfl) ?_
          refine jr_iload rfl rfl ?_
          refine jr_iload rfl rfl ?_
          refine jr_if_lt rfl (fun c46 => ?_) (fun c46 => ?_)
          · refine jr_aload rfl rfl ?_
            refine jr_iload rfl rfl ?_
            refine jr_ineg rfl ?_
            refine jr_iload rfl rfl ?_
            refine jr_iload rfl rfl ?_
            refine jr_cv3 (mc' := 0) (ms' := 0) rfl jm_Poll_factOf_n jm_Poll_factOf_f rfl rfl rfl rfl rfl rfl rfl (Nat.zero_le _) (Nat.zero_le _) ?_
            refine hf _ _ _ ?_
            refine jr_iast (len := 40) rfl rfl rfl (by omega) ?_
            refine jr_iinc6 rfl rfl ?_
            refine jr_goto rfl ?_
            refine jr_iinc7 rfl rfl ?_
            refine jr_goto rfl ?_
            rw [show fact (-jh_I h 25 r i) = ask (cd k) (nm k) from hask 0 (by omega) _ hwd]
            rw [jg_uu, jg_II, jn_S m, jn_S i]
            refine jr_drop 8 (lp_Poll_value n (i + 1) hcal hrep (by omega) hE hcd' hok2 (by omega) (s := _ :: s) (congrArg (· + 1) hs) (jw_pl_push hs hF) hf hask' hask2 (fun F' => ?_))
            have := hQ F'
            rw [jw_evs, jw_st_let hlet.1 hlet.2] at this
            exact this
          · refine jr_iload rfl rfl ?_
            refine jr_goto rfl ?_
            refine jr_iast (len := 40) rfl rfl rfl (by omega) ?_
            refine jr_iinc6 rfl rfl ?_
            refine jr_goto rfl ?_
            refine jr_iinc7 rfl rfl ?_
            refine jr_goto rfl ?_
            exact absurd (Int32.not_le.mp c30) c46
termination_by n
decreasing_by all_goals omega

