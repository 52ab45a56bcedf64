set_option maxHeartbeats 4000000 in
set_option maxRecDepth 100000 in
theorem ev_MD_two {d : Nat} {h : jx_H} {Q : Option jx_V → jx_H → Prop} {c x y : Int32} (hQ : Q (some (jv_i (jw_two c x y))) h) : jx_Ev jm_MD_two (d) 0 0 false 1 [jv_i c, jv_i x, jv_i y] h Q := by
  show jx_W (jm_MD_two, d, 0, 0, false, 1, jh_n h) Q 0 0 0 [some (jv_i c), some (jv_i x), some (jv_i y)] [] h
  refine jr_iload rfl rfl ?_
  refine jr_tsw rfl ?_
  refine ⟨fun c1 => ?_, fun n1_37 => ?_⟩
  · refine jr_iload rfl rfl ?_
    refine jr_if_ne rfl (fun c23 => ?_) (fun c23 => ?_)
    · refine jr_iload rfl rfl ?_
      refine jr_iload rfl rfl ?_
      refine jr_irem rfl (by assumption) ?_
      refine jr_iret rfl rfl (Nat.zero_le _) (Nat.zero_le _) ?_
      rw [jw_two, if_pos c1] at hQ; first | exact hQ | exact jq_pos hQ (by assumption) | exact jq_neg hQ (by assumption) | exact jq_pos (jq_pos hQ (by assumption)) (by assumption) | exact jq_neg (jq_pos hQ (by assumption)) (by assumption) | exact jq_pos (jq_neg hQ (by assumption)) (by assumption) | exact jq_neg (jq_neg hQ (by assumption)) (by assumption)
    · refine jr_ic rfl ?_
      refine jr_goto rfl ?_
      refine jr_iret rfl rfl (Nat.zero_le _) (Nat.zero_le _) ?_
      rw [jw_two, if_pos c1] at hQ; first | exact hQ | exact jq_pos hQ (by assumption) | exact jq_neg hQ (by assumption) | exact jq_pos (jq_pos hQ (by assumption)) (by assumption) | exact jq_neg (jq_pos hQ (by assumption)) (by assumption) | exact jq_pos (jq_neg hQ (by assumption)) (by assumption) | exact jq_neg (jq_neg hQ (by assumption)) (by assumption)
  · skip
    refine ⟨fun c1 => ?_, fun n1_38 => ?_⟩
    · refine jr_iload rfl rfl ?_
      refine jr_if_eq rfl (fun c52 => ?_) (fun c52 => ?_)
      · refine jr_ic rfl ?_
        refine jr_iret rfl rfl (Nat.zero_le _) (Nat.zero_le _) ?_
        rw [jw_two, if_neg (show ¬ c.toInt = 37 by omega), if_pos c1] at hQ; first | exact hQ | exact jq_pos hQ (by assumption) | exact jq_neg hQ (by assumption) | exact jq_pos (jq_pos hQ (by assumption)) (by assumption) | exact jq_neg (jq_pos hQ (by assumption)) (by assumption) | exact jq_pos (jq_neg hQ (by assumption)) (by assumption) | exact jq_neg (jq_neg hQ (by assumption)) (by assumption)
      · refine jr_iload rfl rfl ?_
        refine jr_if_eq rfl (fun c54 => ?_) (fun c54 => ?_)
        · refine jr_ic rfl ?_
          refine jr_iret rfl rfl (Nat.zero_le _) (Nat.zero_le _) ?_
          rw [jw_two, if_neg (show ¬ c.toInt = 37 by omega), if_pos c1] at hQ; first | exact hQ | exact jq_pos hQ (by assumption) | exact jq_neg hQ (by assumption) | exact jq_pos (jq_pos hQ (by assumption)) (by assumption) | exact jq_neg (jq_pos hQ (by assumption)) (by assumption) | exact jq_pos (jq_neg hQ (by assumption)) (by assumption) | exact jq_neg (jq_neg hQ (by assumption)) (by assumption)
        · refine jr_ic rfl ?_
          refine jr_goto rfl ?_
          refine jr_iret rfl rfl (Nat.zero_le _) (Nat.zero_le _) ?_
          rw [jw_two, if_neg (show ¬ c.toInt = 37 by omega), if_pos c1] at hQ; first | exact hQ | exact jq_pos hQ (by assumption) | exact jq_neg hQ (by assumption) | exact jq_pos (jq_pos hQ (by assumption)) (by assumption) | exact jq_neg (jq_pos hQ (by assumption)) (by assumption) | exact jq_pos (jq_neg hQ (by assumption)) (by assumption) | exact jq_neg (jq_neg hQ (by assumption)) (by assumption)
    · skip
      refine ⟨fun c1 => ?_, fun n1_39 => ?_⟩
      · refine jr_iload rfl rfl ?_
        refine jr_if_ne rfl (fun c60 => ?_) (fun c60 => ?_)
        · refine jr_ic rfl ?_
          refine jr_goto rfl ?_
          refine jr_iret rfl rfl (Nat.zero_le _) (Nat.zero_le _) ?_
          rw [jw_two, if_neg (show ¬ c.toInt = 37 by omega), if_neg (show ¬ c.toInt = 38 by omega), if_neg (show ¬ c.toInt = 42 by omega), if_neg (show ¬ c.toInt = 43 by omega), if_neg (show ¬ c.toInt = 45 by omega), if_neg (show ¬ c.toInt = 47 by omega), if_neg (show ¬ c.toInt = 60 by omega), if_neg (show ¬ c.toInt = 61 by omega), if_neg (show ¬ c.toInt = 62 by omega)] at hQ; first | exact hQ | exact jq_pos hQ (by assumption) | exact jq_neg hQ (by assumption) | exact jq_pos (jq_pos hQ (by assumption)) (by assumption) | exact jq_neg (jq_pos hQ (by assumption)) (by assumption) | exact jq_pos (jq_neg hQ (by assumption)) (by assumption) | exact jq_neg (jq_neg hQ (by assumption)) (by assumption)
        · refine jr_iload rfl rfl ?_
          refine jr_if_eq rfl (fun c62 => ?_) (fun c62 => ?_)
          · refine jr_ic rfl ?_
            refine jr_iret rfl rfl (Nat.zero_le _) (Nat.zero_le _) ?_
            rw [jw_two, if_neg (show ¬ c.toInt = 37 by omega), if_neg (show ¬ c.toInt = 38 by omega), if_neg (show ¬ c.toInt = 42 by omega), if_neg (show ¬ c.toInt = 43 by omega), if_neg (show ¬ c.toInt = 45 by omega), if_neg (show ¬ c.toInt = 47 by omega), if_neg (show ¬ c.toInt = 60 by omega), if_neg (show ¬ c.toInt = 61 by omega), if_neg (show ¬ c.toInt = 62 by omega)] at hQ; first | exact hQ | exact jq_pos hQ (by assumption) | exact jq_neg hQ (by assumption) | exact jq_pos (jq_pos hQ (by assumption)) (by assumption) | exact jq_neg (jq_pos hQ (by assumption)) (by assumption) | exact jq_pos (jq_neg hQ (by assumption)) (by assumption) | exact jq_neg (jq_neg hQ (by assumption)) (by assumption)
          · refine jr_ic rfl ?_
            refine jr_goto rfl ?_
            refine jr_iret rfl rfl (Nat.zero_le _) (Nat.zero_le _) ?_
            rw [jw_two, if_neg (show ¬ c.toInt = 37 by omega), if_neg (show ¬ c.toInt = 38 by omega), if_neg (show ¬ c.toInt = 42 by omega), if_neg (show ¬ c.toInt = 43 by omega), if_neg (show ¬ c.toInt = 45 by omega), if_neg (show ¬ c.toInt = 47 by omega), if_neg (show ¬ c.toInt = 60 by omega), if_neg (show ¬ c.toInt = 61 by omega), if_neg (show ¬ c.toInt = 62 by omega)] at hQ; first | exact hQ | exact jq_pos hQ (by assumption) | exact jq_neg hQ (by assumption) | exact jq_pos (jq_pos hQ (by assumption)) (by assumption) | exact jq_neg (jq_pos hQ (by assumption)) (by assumption) | exact jq_pos (jq_neg hQ (by assumption)) (by assumption) | exact jq_neg (jq_neg hQ (by assumption)) (by assumption)
      · skip
        refine ⟨fun c1 => ?_, fun n1_40 => ?_⟩
        · refine jr_iload rfl rfl ?_
          refine jr_if_ne rfl (fun c60 => ?_) (fun c60 => ?_)
          · refine jr_ic rfl ?_
            refine jr_goto rfl ?_
            refine jr_iret rfl rfl (Nat.zero_le _) (Nat.zero_le _) ?_
            rw [jw_two, if_neg (show ¬ c.toInt = 37 by omega), if_neg (show ¬ c.toInt = 38 by omega), if_neg (show ¬ c.toInt = 42 by omega), if_neg (show ¬ c.toInt = 43 by omega), if_neg (show ¬ c.toInt = 45 by omega), if_neg (show ¬ c.toInt = 47 by omega), if_neg (show ¬ c.toInt = 60 by omega), if_neg (show ¬ c.toInt = 61 by omega), if_neg (show ¬ c.toInt = 62 by omega)] at hQ; first | exact hQ | exact jq_pos hQ (by assumption) | exact jq_neg hQ (by assumption) | exact jq_pos (jq_pos hQ (by assumption)) (by assumption) | exact jq_neg (jq_pos hQ (by assumption)) (by assumption) | exact jq_pos (jq_neg hQ (by assumption)) (by assumption) | exact jq_neg (jq_neg hQ (by assumption)) (by assumption)
          · refine jr_iload rfl rfl ?_
            refine jr_if_eq rfl (fun c62 => ?_) (fun c62 => ?_)
            · refine jr_ic rfl ?_
              refine jr_iret rfl rfl (Nat.zero_le _) (Nat.zero_le _) ?_
              rw [jw_two, if_neg (show ¬ c.toInt = 37 by omega), if_neg (show ¬ c.toInt = 38 by omega), if_neg (show ¬ c.toInt = 42 by omega), if_neg (show ¬ c.toInt = 43 by omega), if_neg (show ¬ c.toInt = 45 by omega), if_neg (show ¬ c.toInt = 47 by omega), if_neg (show ¬ c.toInt = 60 by omega), if_neg (show ¬ c.toInt = 61 by omega), if_neg (show ¬ c.toInt = 62 by omega)] at hQ; first | exact hQ | exact jq_pos hQ (by assumption) | exact jq_neg hQ (by assumption) | exact jq_pos (jq_pos hQ (by assumption)) (by assumption) | exact jq_neg (jq_pos hQ (by assumption)) (by assumption) | exact jq_pos (jq_neg hQ (by assumption)) (by assumption) | exact jq_neg (jq_neg hQ (by assumption)) (by assumption)
            · refine jr_ic rfl ?_
              refine jr_goto rfl ?_
              refine jr_iret rfl rfl (Nat.zero_le _) (Nat.zero_le _) ?_
              rw [jw_two, if_neg (show ¬ c.toInt = 37 by omega), if_neg (show ¬ c.toInt = 38 by omega), if_neg (show ¬ c.toInt = 42 by omega), if_neg (show ¬ c.toInt = 43 by omega), if_neg (show ¬ c.toInt = 45 by omega), if_neg (show ¬ c.toInt = 47 by omega), if_neg (show ¬ c.toInt = 60 by omega), if_neg (show ¬ c.toInt = 61 by omega), if_neg (show ¬ c.toInt = 62 by omega)] at hQ; first | exact hQ | exact jq_pos hQ (by assumption) | exact jq_neg hQ (by assumption) | exact jq_pos (jq_pos hQ (by assumption)) (by assumption) | exact jq_neg (jq_pos hQ (by assumption)) (by assumption) | exact jq_pos (jq_neg hQ (by assumption)) (by assumption) | exact jq_neg (jq_neg hQ (by assumption)) (by assumption)
        · skip
          refine ⟨fun c1 => ?_, fun n1_41 => ?_⟩
          · refine jr_iload rfl rfl ?_
            refine jr_if_ne rfl (fun c60 => ?_) (fun c60 => ?_)
            · refine jr_ic rfl ?_
              refine jr_goto rfl ?_
              refine jr_iret rfl rfl (Nat.zero_le _) (Nat.zero_le _) ?_
              rw [jw_two, if_neg (show ¬ c.toInt = 37 by omega), if_neg (show ¬ c.toInt = 38 by omega), if_neg (show ¬ c.toInt = 42 by omega), if_neg (show ¬ c.toInt = 43 by omega), if_neg (show ¬ c.toInt = 45 by omega), if_neg (show ¬ c.toInt = 47 by omega), if_neg (show ¬ c.toInt = 60 by omega), if_neg (show ¬ c.toInt = 61 by omega), if_neg (show ¬ c.toInt = 62 by omega)] at hQ; first | exact hQ | exact jq_pos hQ (by assumption) | exact jq_neg hQ (by assumption) | exact jq_pos (jq_pos hQ (by assumption)) (by assumption) | exact jq_neg (jq_pos hQ (by assumption)) (by assumption) | exact jq_pos (jq_neg hQ (by assumption)) (by assumption) | exact jq_neg (jq_neg hQ (by assumption)) (by assumption)
            · refine jr_iload rfl rfl ?_
              refine jr_if_eq rfl (fun c62 => ?_) (fun c62 => ?_)
              · refine jr_ic rfl ?_
                refine jr_iret rfl rfl (Nat.zero_le _) (Nat.zero_le _) ?_
                rw [jw_two, if_neg (show ¬ c.toInt = 37 by omega), if_neg (show ¬ c.toInt = 38 by omega), if_neg (show ¬ c.toInt = 42 by omega), if_neg (show ¬ c.toInt = 43 by omega), if_neg (show ¬ c.toInt = 45 by omega), if_neg (show ¬ c.toInt = 47 by omega), if_neg (show ¬ c.toInt = 60 by omega), if_neg (show ¬ c.toInt = 61 by omega), if_neg (show ¬ c.toInt = 62 by omega)] at hQ; first | exact hQ | exact jq_pos hQ (by assumption) | exact jq_neg hQ (by assumption) | exact jq_pos (jq_pos hQ (by assumption)) (by assumption) | exact jq_neg (jq_pos hQ (by assumption)) (by assumption) | exact jq_pos (jq_neg hQ (by assumption)) (by assumption) | exact jq_neg (jq_neg hQ (by assumption)) (by assumption)
              · refine jr_ic rfl ?_
                refine jr_goto rfl ?_
                refine jr_iret rfl rfl (Nat.zero_le _) (Nat.zero_le _) ?_
                rw [jw_two, if_neg (show ¬ c.toInt = 37 by omega), if_neg (show ¬ c.toInt = 38 by omega), if_neg (show ¬ c.toInt = 42 by omega), if_neg (show ¬ c.toInt = 43 by omega), if_neg (show ¬ c.toInt = 45 by omega), if_neg (show ¬ c.toInt = 47 by omega), if_neg (show ¬ c.toInt = 60 by omega), if_neg (show ¬ c.toInt = 61 by omega), if_neg (show ¬ c.toInt = 62 by omega)] at hQ; first | exact hQ | exact jq_pos hQ (by assumption) | exact jq_neg hQ (by assumption) | exact jq_pos (jq_pos hQ (by assumption)) (by assumption) | exact jq_neg (jq_pos hQ (by assumption)) (by assumption) | exact jq_pos (jq_neg hQ (by assumption)) (by assumption) | exact jq_neg (jq_neg hQ (by assumption)) (by assumption)
          · skip
            refine ⟨fun c1 => ?_, fun n1_42 => ?_⟩
            · refine jr_iload rfl rfl ?_
              refine jr_iload rfl rfl ?_
              refine jr_imul rfl ?_
              refine jr_iret rfl rfl (Nat.zero_le _) (Nat.zero_le _) ?_
              rw [jw_two, if_neg (show ¬ c.toInt = 37 by omega), if_neg (show ¬ c.toInt = 38 by omega), if_pos c1] at hQ; first | exact hQ | exact jq_pos hQ (by assumption) | exact jq_neg hQ (by assumption) | exact jq_pos (jq_pos hQ (by assumption)) (by assumption) | exact jq_neg (jq_pos hQ (by assumption)) (by assumption) | exact jq_pos (jq_neg hQ (by assumption)) (by assumption) | exact jq_neg (jq_neg hQ (by assumption)) (by assumption)
            · skip
              refine ⟨fun c1 => ?_, fun n1_43 => ?_⟩
              · refine jr_iload rfl rfl ?_
                refine jr_iload rfl rfl ?_
                refine jr_iadd rfl ?_
                refine jr_iret rfl rfl (Nat.zero_le _) (Nat.zero_le _) ?_
                rw [jw_two, if_neg (show ¬ c.toInt = 37 by omega), if_neg (show ¬ c.toInt = 38 by omega), if_neg (show ¬ c.toInt = 42 by omega), if_pos c1] at hQ; first | exact hQ | exact jq_pos hQ (by assumption) | exact jq_neg hQ (by assumption) | exact jq_pos (jq_pos hQ (by assumption)) (by assumption) | exact jq_neg (jq_pos hQ (by assumption)) (by assumption) | exact jq_pos (jq_neg hQ (by assumption)) (by assumption) | exact jq_neg (jq_neg hQ (by assumption)) (by assumption)
              · skip
                refine ⟨fun c1 => ?_, fun n1_44 => ?_⟩
                · refine jr_iload rfl rfl ?_
                  refine jr_if_ne rfl (fun c60 => ?_) (fun c60 => ?_)
                  · refine jr_ic rfl ?_
                    refine jr_goto rfl ?_
                    refine jr_iret rfl rfl (Nat.zero_le _) (Nat.zero_le _) ?_
                    rw [jw_two, if_neg (show ¬ c.toInt = 37 by omega), if_neg (show ¬ c.toInt = 38 by omega), if_neg (show ¬ c.toInt = 42 by omega), if_neg (show ¬ c.toInt = 43 by omega), if_neg (show ¬ c.toInt = 45 by omega), if_neg (show ¬ c.toInt = 47 by omega), if_neg (show ¬ c.toInt = 60 by omega), if_neg (show ¬ c.toInt = 61 by omega), if_neg (show ¬ c.toInt = 62 by omega)] at hQ; first | exact hQ | exact jq_pos hQ (by assumption) | exact jq_neg hQ (by assumption) | exact jq_pos (jq_pos hQ (by assumption)) (by assumption) | exact jq_neg (jq_pos hQ (by assumption)) (by assumption) | exact jq_pos (jq_neg hQ (by assumption)) (by assumption) | exact jq_neg (jq_neg hQ (by assumption)) (by assumption)
                  · refine jr_iload rfl rfl ?_
                    refine jr_if_eq rfl (fun c62 => ?_) (fun c62 => ?_)
                    · refine jr_ic rfl ?_
                      refine jr_iret rfl rfl (Nat.zero_le _) (Nat.zero_le _) ?_
                      rw [jw_two, if_neg (show ¬ c.toInt = 37 by omega), if_neg (show ¬ c.toInt = 38 by omega), if_neg (show ¬ c.toInt = 42 by omega), if_neg (show ¬ c.toInt = 43 by omega), if_neg (show ¬ c.toInt = 45 by omega), if_neg (show ¬ c.toInt = 47 by omega), if_neg (show ¬ c.toInt = 60 by omega), if_neg (show ¬ c.toInt = 61 by omega), if_neg (show ¬ c.toInt = 62 by omega)] at hQ; first | exact hQ | exact jq_pos hQ (by assumption) | exact jq_neg hQ (by assumption) | exact jq_pos (jq_pos hQ (by assumption)) (by assumption) | exact jq_neg (jq_pos hQ (by assumption)) (by assumption) | exact jq_pos (jq_neg hQ (by assumption)) (by assumption) | exact jq_neg (jq_neg hQ (by assumption)) (by assumption)
                    · refine jr_ic rfl ?_
                      refine jr_goto rfl ?_
                      refine jr_iret rfl rfl (Nat.zero_le _) (Nat.zero_le _) ?_
                      rw [jw_two, if_neg (show ¬ c.toInt = 37 by omega), if_neg (show ¬ c.toInt = 38 by omega), if_neg (show ¬ c.toInt = 42 by omega), if_neg (show ¬ c.toInt = 43 by omega), if_neg (show ¬ c.toInt = 45 by omega), if_neg (show ¬ c.toInt = 47 by omega), if_neg (show ¬ c.toInt = 60 by omega), if_neg (show ¬ c.toInt = 61 by omega), if_neg (show ¬ c.toInt = 62 by omega)] at hQ; first | exact hQ | exact jq_pos hQ (by assumption) | exact jq_neg hQ (by assumption) | exact jq_pos (jq_pos hQ (by assumption)) (by assumption) | exact jq_neg (jq_pos hQ (by assumption)) (by assumption) | exact jq_pos (jq_neg hQ (by assumption)) (by assumption) | exact jq_neg (jq_neg hQ (by assumption)) (by assumption)
                · skip
                  refine ⟨fun c1 => ?_, fun n1_45 => ?_⟩
                  · refine jr_iload rfl rfl ?_
                    refine jr_iload rfl rfl ?_
                    refine jr_isub rfl ?_
                    refine jr_iret rfl rfl (Nat.zero_le _) (Nat.zero_le _) ?_
                    rw [jw_two, if_neg (show ¬ c.toInt = 37 by omega), if_neg (show ¬ c.toInt = 38 by omega), if_neg (show ¬ c.toInt = 42 by omega), if_neg (show ¬ c.toInt = 43 by omega), if_pos c1] at hQ; first | exact hQ | exact jq_pos hQ (by assumption) | exact jq_neg hQ (by assumption) | exact jq_pos (jq_pos hQ (by assumption)) (by assumption) | exact jq_neg (jq_pos hQ (by assumption)) (by assumption) | exact jq_pos (jq_neg hQ (by assumption)) (by assumption) | exact jq_neg (jq_neg hQ (by assumption)) (by assumption)
                  · skip
                    refine ⟨fun c1 => ?_, fun n1_46 => ?_⟩
                    · refine jr_iload rfl rfl ?_
                      refine jr_if_ne rfl (fun c60 => ?_) (fun c60 => ?_)
                      · refine jr_ic rfl ?_
                        refine jr_goto rfl ?_
                        refine jr_iret rfl rfl (Nat.zero_le _) (Nat.zero_le _) ?_
                        rw [jw_two, if_neg (show ¬ c.toInt = 37 by omega), if_neg (show ¬ c.toInt = 38 by omega), if_neg (show ¬ c.toInt = 42 by omega), if_neg (show ¬ c.toInt = 43 by omega), if_neg (show ¬ c.toInt = 45 by omega), if_neg (show ¬ c.toInt = 47 by omega), if_neg (show ¬ c.toInt = 60 by omega), if_neg (show ¬ c.toInt = 61 by omega), if_neg (show ¬ c.toInt = 62 by omega)] at hQ; first | exact hQ | exact jq_pos hQ (by assumption) | exact jq_neg hQ (by assumption) | exact jq_pos (jq_pos hQ (by assumption)) (by assumption) | exact jq_neg (jq_pos hQ (by assumption)) (by assumption) | exact jq_pos (jq_neg hQ (by assumption)) (by assumption) | exact jq_neg (jq_neg hQ (by assumption)) (by assumption)
                      · refine jr_iload rfl rfl ?_
                        refine jr_if_eq rfl (fun c62 => ?_) (fun c62 => ?_)
                        · refine jr_ic rfl ?_
                          refine jr_iret rfl rfl (Nat.zero_le _) (Nat.zero_le _) ?_
                          rw [jw_two, if_neg (show ¬ c.toInt = 37 by omega), if_neg (show ¬ c.toInt = 38 by omega), if_neg (show ¬ c.toInt = 42 by omega), if_neg (show ¬ c.toInt = 43 by omega), if_neg (show ¬ c.toInt = 45 by omega), if_neg (show ¬ c.toInt = 47 by omega), if_neg (show ¬ c.toInt = 60 by omega), if_neg (show ¬ c.toInt = 61 by omega), if_neg (show ¬ c.toInt = 62 by omega)] at hQ; first | exact hQ | exact jq_pos hQ (by assumption) | exact jq_neg hQ (by assumption) | exact jq_pos (jq_pos hQ (by assumption)) (by assumption) | exact jq_neg (jq_pos hQ (by assumption)) (by assumption) | exact jq_pos (jq_neg hQ (by assumption)) (by assumption) | exact jq_neg (jq_neg hQ (by assumption)) (by assumption)
                        · refine jr_ic rfl ?_
                          refine jr_goto rfl ?_
                          refine jr_iret rfl rfl (Nat.zero_le _) (Nat.zero_le _) ?_
                          rw [jw_two, if_neg (show ¬ c.toInt = 37 by omega), if_neg (show ¬ c.toInt = 38 by omega), if_neg (show ¬ c.toInt = 42 by omega), if_neg (show ¬ c.toInt = 43 by omega), if_neg (show ¬ c.toInt = 45 by omega), if_neg (show ¬ c.toInt = 47 by omega), if_neg (show ¬ c.toInt = 60 by omega), if_neg (show ¬ c.toInt = 61 by omega), if_neg (show ¬ c.toInt = 62 by omega)] at hQ; first | exact hQ | exact jq_pos hQ (by assumption) | exact jq_neg hQ (by assumption) | exact jq_pos (jq_pos hQ (by assumption)) (by assumption) | exact jq_neg (jq_pos hQ (by assumption)) (by assumption) | exact jq_pos (jq_neg hQ (by assumption)) (by assumption) | exact jq_neg (jq_neg hQ (by assumption)) (by assumption)
                    · skip
                      refine ⟨fun c1 => ?_, fun n1_47 => ?_⟩
                      · refine jr_iload rfl rfl ?_
                        refine jr_if_ne rfl (fun c15 => ?_) (fun c15 => ?_)
                        · refine jr_iload rfl rfl ?_
                          refine jr_iload rfl rfl ?_
                          refine jr_idiv rfl (by assumption) ?_
                          refine jr_iret rfl rfl (Nat.zero_le _) (Nat.zero_le _) ?_
                          rw [jw_two, if_neg (show ¬ c.toInt = 37 by omega), if_neg (show ¬ c.toInt = 38 by omega), if_neg (show ¬ c.toInt = 42 by omega), if_neg (show ¬ c.toInt = 43 by omega), if_neg (show ¬ c.toInt = 45 by omega), if_pos c1] at hQ; first | exact hQ | exact jq_pos hQ (by assumption) | exact jq_neg hQ (by assumption) | exact jq_pos (jq_pos hQ (by assumption)) (by assumption) | exact jq_neg (jq_pos hQ (by assumption)) (by assumption) | exact jq_pos (jq_neg hQ (by assumption)) (by assumption) | exact jq_neg (jq_neg hQ (by assumption)) (by assumption)
                        · refine jr_ic rfl ?_
                          refine jr_goto rfl ?_
                          refine jr_iret rfl rfl (Nat.zero_le _) (Nat.zero_le _) ?_
                          rw [jw_two, if_neg (show ¬ c.toInt = 37 by omega), if_neg (show ¬ c.toInt = 38 by omega), if_neg (show ¬ c.toInt = 42 by omega), if_neg (show ¬ c.toInt = 43 by omega), if_neg (show ¬ c.toInt = 45 by omega), if_pos c1] at hQ; first | exact hQ | exact jq_pos hQ (by assumption) | exact jq_neg hQ (by assumption) | exact jq_pos (jq_pos hQ (by assumption)) (by assumption) | exact jq_neg (jq_pos hQ (by assumption)) (by assumption) | exact jq_pos (jq_neg hQ (by assumption)) (by assumption) | exact jq_neg (jq_neg hQ (by assumption)) (by assumption)
                      · skip
                        refine ⟨fun c1 => ?_, fun n1_48 => ?_⟩
                        · refine jr_iload rfl rfl ?_
                          refine jr_if_ne rfl (fun c60 => ?_) (fun c60 => ?_)
                          · refine jr_ic rfl ?_
                            refine jr_goto rfl ?_
                            refine jr_iret rfl rfl (Nat.zero_le _) (Nat.zero_le _) ?_
                            rw [jw_two, if_neg (show ¬ c.toInt = 37 by omega), if_neg (show ¬ c.toInt = 38 by omega), if_neg (show ¬ c.toInt = 42 by omega), if_neg (show ¬ c.toInt = 43 by omega), if_neg (show ¬ c.toInt = 45 by omega), if_neg (show ¬ c.toInt = 47 by omega), if_neg (show ¬ c.toInt = 60 by omega), if_neg (show ¬ c.toInt = 61 by omega), if_neg (show ¬ c.toInt = 62 by omega)] at hQ; first | exact hQ | exact jq_pos hQ (by assumption) | exact jq_neg hQ (by assumption) | exact jq_pos (jq_pos hQ (by assumption)) (by assumption) | exact jq_neg (jq_pos hQ (by assumption)) (by assumption) | exact jq_pos (jq_neg hQ (by assumption)) (by assumption) | exact jq_neg (jq_neg hQ (by assumption)) (by assumption)
                          · refine jr_iload rfl rfl ?_
                            refine jr_if_eq rfl (fun c62 => ?_) (fun c62 => ?_)
                            · refine jr_ic rfl ?_
                              refine jr_iret rfl rfl (Nat.zero_le _) (Nat.zero_le _) ?_
                              rw [jw_two, if_neg (show ¬ c.toInt = 37 by omega), if_neg (show ¬ c.toInt = 38 by omega), if_neg (show ¬ c.toInt = 42 by omega), if_neg (show ¬ c.toInt = 43 by omega), if_neg (show ¬ c.toInt = 45 by omega), if_neg (show ¬ c.toInt = 47 by omega), if_neg (show ¬ c.toInt = 60 by omega), if_neg (show ¬ c.toInt = 61 by omega), if_neg (show ¬ c.toInt = 62 by omega)] at hQ; first | exact hQ | exact jq_pos hQ (by assumption) | exact jq_neg hQ (by assumption) | exact jq_pos (jq_pos hQ (by assumption)) (by assumption) | exact jq_neg (jq_pos hQ (by assumption)) (by assumption) | exact jq_pos (jq_neg hQ (by assumption)) (by assumption) | exact jq_neg (jq_neg hQ (by assumption)) (by assumption)
                            · refine jr_ic rfl ?_
                              refine jr_goto rfl ?_
                              refine jr_iret rfl rfl (Nat.zero_le _) (Nat.zero_le _) ?_
                              rw [jw_two, if_neg (show ¬ c.toInt = 37 by omega), if_neg (show ¬ c.toInt = 38 by omega), if_neg (show ¬ c.toInt = 42 by omega), if_neg (show ¬ c.toInt = 43 by omega), if_neg (show ¬ c.toInt = 45 by omega), if_neg (show ¬ c.toInt = 47 by omega), if_neg (show ¬ c.toInt = 60 by omega), if_neg (show ¬ c.toInt = 61 by omega), if_neg (show ¬ c.toInt = 62 by omega)] at hQ; first | exact hQ | exact jq_pos hQ (by assumption) | exact jq_neg hQ (by assumption) | exact jq_pos (jq_pos hQ (by assumption)) (by assumption) | exact jq_neg (jq_pos hQ (by assumption)) (by assumption) | exact jq_pos (jq_neg hQ (by assumption)) (by assumption) | exact jq_neg (jq_neg hQ (by assumption)) (by assumption)
                        · skip
                          refine ⟨fun c1 => ?_, fun n1_49 => ?_⟩
                          · refine jr_iload rfl rfl ?_
                            refine jr_if_ne rfl (fun c60 => ?_) (fun c60 => ?_)
                            · refine jr_ic rfl ?_
                              refine jr_goto rfl ?_
                              refine jr_iret rfl rfl (Nat.zero_le _) (Nat.zero_le _) ?_
                              rw [jw_two, if_neg (show ¬ c.toInt = 37 by omega), if_neg (show ¬ c.toInt = 38 by omega), if_neg (show ¬ c.toInt = 42 by omega), if_neg (show ¬ c.toInt = 43 by omega), if_neg (show ¬ c.toInt = 45 by omega), if_neg (show ¬ c.toInt = 47 by omega), if_neg (show ¬ c.toInt = 60 by omega), if_neg (show ¬ c.toInt = 61 by omega), if_neg (show ¬ c.toInt = 62 by omega)] at hQ; first | exact hQ | exact jq_pos hQ (by assumption) | exact jq_neg hQ (by assumption) | exact jq_pos (jq_pos hQ (by assumption)) (by assumption) | exact jq_neg (jq_pos hQ (by assumption)) (by assumption) | exact jq_pos (jq_neg hQ (by assumption)) (by assumption) | exact jq_neg (jq_neg hQ (by assumption)) (by assumption)
                            · refine jr_iload rfl rfl ?_
                              refine jr_if_eq rfl (fun c62 => ?_) (fun c62 => ?_)
                              · refine jr_ic rfl ?_
                                refine jr_iret rfl rfl (Nat.zero_le _) (Nat.zero_le _) ?_
                                rw [jw_two, if_neg (show ¬ c.toInt = 37 by omega), if_neg (show ¬ c.toInt = 38 by omega), if_neg (show ¬ c.toInt = 42 by omega), if_neg (show ¬ c.toInt = 43 by omega), if_neg (show ¬ c.toInt = 45 by omega), if_neg (show ¬ c.toInt = 47 by omega), if_neg (show ¬ c.toInt = 60 by omega), if_neg (show ¬ c.toInt = 61 by omega), if_neg (show ¬ c.toInt = 62 by omega)] at hQ; first | exact hQ | exact jq_pos hQ (by assumption) | exact jq_neg hQ (by assumption) | exact jq_pos (jq_pos hQ (by assumption)) (by assumption) | exact jq_neg (jq_pos hQ (by assumption)) (by assumption) | exact jq_pos (jq_neg hQ (by assumption)) (by assumption) | exact jq_neg (jq_neg hQ (by assumption)) (by assumption)
                              · refine jr_ic rfl ?_
                                refine jr_goto rfl ?_
                                refine jr_iret rfl rfl (Nat.zero_le _) (Nat.zero_le _) ?_
                                rw [jw_two, if_neg (show ¬ c.toInt = 37 by omega), if_neg (show ¬ c.toInt = 38 by omega), if_neg (show ¬ c.toInt = 42 by omega), if_neg (show ¬ c.toInt = 43 by omega), if_neg (show ¬ c.toInt = 45 by omega), if_neg (show ¬ c.toInt = 47 by omega), if_neg (show ¬ c.toInt = 60 by omega), if_neg (show ¬ c.toInt = 61 by omega), if_neg (show ¬ c.toInt = 62 by omega)] at hQ; first | exact hQ | exact jq_pos hQ (by assumption) | exact jq_neg hQ (by assumption) | exact jq_pos (jq_pos hQ (by assumption)) (by assumption) | exact jq_neg (jq_pos hQ (by assumption)) (by assumption) | exact jq_pos (jq_neg hQ (by assumption)) (by assumption) | exact jq_neg (jq_neg hQ (by assumption)) (by assumption)
                          · skip
                            refine ⟨fun c1 => ?_, fun n1_50 => ?_⟩
                            · refine jr_iload rfl rfl ?_
                              refine jr_if_ne rfl (fun c60 => ?_) (fun c60 => ?_)
                              · refine jr_ic rfl ?_
                                refine jr_goto rfl ?_
                                refine jr_iret rfl rfl (Nat.zero_le _) (Nat.zero_le _) ?_
                                rw [jw_two, if_neg (show ¬ c.toInt = 37 by omega), if_neg (show ¬ c.toInt = 38 by omega), if_neg (show ¬ c.toInt = 42 by omega), if_neg (show ¬ c.toInt = 43 by omega), if_neg (show ¬ c.toInt = 45 by omega), if_neg (show ¬ c.toInt = 47 by omega), if_neg (show ¬ c.toInt = 60 by omega), if_neg (show ¬ c.toInt = 61 by omega), if_neg (show ¬ c.toInt = 62 by omega)] at hQ; first | exact hQ | exact jq_pos hQ (by assumption) | exact jq_neg hQ (by assumption) | exact jq_pos (jq_pos hQ (by assumption)) (by assumption) | exact jq_neg (jq_pos hQ (by assumption)) (by assumption) | exact jq_pos (jq_neg hQ (by assumption)) (by assumption) | exact jq_neg (jq_neg hQ (by assumption)) (by assumption)
                              · refine jr_iload rfl rfl ?_
                                refine jr_if_eq rfl (fun c62 => ?_) (fun c62 => ?_)
                                · refine jr_ic rfl ?_
                                  refine jr_iret rfl rfl (Nat.zero_le _) (Nat.zero_le _) ?_
                                  rw [jw_two, if_neg (show ¬ c.toInt = 37 by omega), if_neg (show ¬ c.toInt = 38 by omega), if_neg (show ¬ c.toInt = 42 by omega), if_neg (show ¬ c.toInt = 43 by omega), if_neg (show ¬ c.toInt = 45 by omega), if_neg (show ¬ c.toInt = 47 by omega), if_neg (show ¬ c.toInt = 60 by omega), if_neg (show ¬ c.toInt = 61 by omega), if_neg (show ¬ c.toInt = 62 by omega)] at hQ; first | exact hQ | exact jq_pos hQ (by assumption) | exact jq_neg hQ (by assumption) | exact jq_pos (jq_pos hQ (by assumption)) (by assumption) | exact jq_neg (jq_pos hQ (by assumption)) (by assumption) | exact jq_pos (jq_neg hQ (by assumption)) (by assumption) | exact jq_neg (jq_neg hQ (by assumption)) (by assumption)
                                · refine jr_ic rfl ?_
                                  refine jr_goto rfl ?_
                                  refine jr_iret rfl rfl (Nat.zero_le _) (Nat.zero_le _) ?_
                                  rw [jw_two, if_neg (show ¬ c.toInt = 37 by omega), if_neg (show ¬ c.toInt = 38 by omega), if_neg (show ¬ c.toInt = 42 by omega), if_neg (show ¬ c.toInt = 43 by omega), if_neg (show ¬ c.toInt = 45 by omega), if_neg (show ¬ c.toInt = 47 by omega), if_neg (show ¬ c.toInt = 60 by omega), if_neg (show ¬ c.toInt = 61 by omega), if_neg (show ¬ c.toInt = 62 by omega)] at hQ; first | exact hQ | exact jq_pos hQ (by assumption) | exact jq_neg hQ (by assumption) | exact jq_pos (jq_pos hQ (by assumption)) (by assumption) | exact jq_neg (jq_pos hQ (by assumption)) (by assumption) | exact jq_pos (jq_neg hQ (by assumption)) (by assumption) | exact jq_neg (jq_neg hQ (by assumption)) (by assumption)
                            · skip
                              refine ⟨fun c1 => ?_, fun n1_51 => ?_⟩
                              · refine jr_iload rfl rfl ?_
                                refine jr_if_ne rfl (fun c60 => ?_) (fun c60 => ?_)
                                · refine jr_ic rfl ?_
                                  refine jr_goto rfl ?_
                                  refine jr_iret rfl rfl (Nat.zero_le _) (Nat.zero_le _) ?_
                                  rw [jw_two, if_neg (show ¬ c.toInt = 37 by omega), if_neg (show ¬ c.toInt = 38 by omega), if_neg (show ¬ c.toInt = 42 by omega), if_neg (show ¬ c.toInt = 43 by omega), if_neg (show ¬ c.toInt = 45 by omega), if_neg (show ¬ c.toInt = 47 by omega), if_neg (show ¬ c.toInt = 60 by omega), if_neg (show ¬ c.toInt = 61 by omega), if_neg (show ¬ c.toInt = 62 by omega)] at hQ; first | exact hQ | exact jq_pos hQ (by assumption) | exact jq_neg hQ (by assumption) | exact jq_pos (jq_pos hQ (by assumption)) (by assumption) | exact jq_neg (jq_pos hQ (by assumption)) (by assumption) | exact jq_pos (jq_neg hQ (by assumption)) (by assumption) | exact jq_neg (jq_neg hQ (by assumption)) (by assumption)
                                · refine jr_iload rfl rfl ?_
                                  refine jr_if_eq rfl (fun c62 => ?_) (fun c62 => ?_)
                                  · refine jr_ic rfl ?_
                                    refine jr_iret rfl rfl (Nat.zero_le _) (Nat.zero_le _) ?_
                                    rw [jw_two, if_neg (show ¬ c.toInt = 37 by omega), if_neg (show ¬ c.toInt = 38 by omega), if_neg (show ¬ c.toInt = 42 by omega), if_neg (show ¬ c.toInt = 43 by omega), if_neg (show ¬ c.toInt = 45 by omega), if_neg (show ¬ c.toInt = 47 by omega), if_neg (show ¬ c.toInt = 60 by omega), if_neg (show ¬ c.toInt = 61 by omega), if_neg (show ¬ c.toInt = 62 by omega)] at hQ; first | exact hQ | exact jq_pos hQ (by assumption) | exact jq_neg hQ (by assumption) | exact jq_pos (jq_pos hQ (by assumption)) (by assumption) | exact jq_neg (jq_pos hQ (by assumption)) (by assumption) | exact jq_pos (jq_neg hQ (by assumption)) (by assumption) | exact jq_neg (jq_neg hQ (by assumption)) (by assumption)
                                  · refine jr_ic rfl ?_
                                    refine jr_goto rfl ?_
                                    refine jr_iret rfl rfl (Nat.zero_le _) (Nat.zero_le _) ?_
                                    rw [jw_two, if_neg (show ¬ c.toInt = 37 by omega), if_neg (show ¬ c.toInt = 38 by omega), if_neg (show ¬ c.toInt = 42 by omega), if_neg (show ¬ c.toInt = 43 by omega), if_neg (show ¬ c.toInt = 45 by omega), if_neg (show ¬ c.toInt = 47 by omega), if_neg (show ¬ c.toInt = 60 by omega), if_neg (show ¬ c.toInt = 61 by omega), if_neg (show ¬ c.toInt = 62 by omega)] at hQ; first | exact hQ | exact jq_pos hQ (by assumption) | exact jq_neg hQ (by assumption) | exact jq_pos (jq_pos hQ (by assumption)) (by assumption) | exact jq_neg (jq_pos hQ (by assumption)) (by assumption) | exact jq_pos (jq_neg hQ (by assumption)) (by assumption) | exact jq_neg (jq_neg hQ (by assumption)) (by assumption)
                              · skip
                                refine ⟨fun c1 => ?_, fun n1_52 => ?_⟩
                                · refine jr_iload rfl rfl ?_
                                  refine jr_if_ne rfl (fun c60 => ?_) (fun c60 => ?_)
                                  · refine jr_ic rfl ?_
                                    refine jr_goto rfl ?_
                                    refine jr_iret rfl rfl (Nat.zero_le _) (Nat.zero_le _) ?_
                                    rw [jw_two, if_neg (show ¬ c.toInt = 37 by omega), if_neg (show ¬ c.toInt = 38 by omega), if_neg (show ¬ c.toInt = 42 by omega), if_neg (show ¬ c.toInt = 43 by omega), if_neg (show ¬ c.toInt = 45 by omega), if_neg (show ¬ c.toInt = 47 by omega), if_neg (show ¬ c.toInt = 60 by omega), if_neg (show ¬ c.toInt = 61 by omega), if_neg (show ¬ c.toInt = 62 by omega)] at hQ; first | exact hQ | exact jq_pos hQ (by assumption) | exact jq_neg hQ (by assumption) | exact jq_pos (jq_pos hQ (by assumption)) (by assumption) | exact jq_neg (jq_pos hQ (by assumption)) (by assumption) | exact jq_pos (jq_neg hQ (by assumption)) (by assumption) | exact jq_neg (jq_neg hQ (by assumption)) (by assumption)
                                  · refine jr_iload rfl rfl ?_
                                    refine jr_if_eq rfl (fun c62 => ?_) (fun c62 => ?_)
                                    · refine jr_ic rfl ?_
                                      refine jr_iret rfl rfl (Nat.zero_le _) (Nat.zero_le _) ?_
                                      rw [jw_two, if_neg (show ¬ c.toInt = 37 by omega), if_neg (show ¬ c.toInt = 38 by omega), if_neg (show ¬ c.toInt = 42 by omega), if_neg (show ¬ c.toInt = 43 by omega), if_neg (show ¬ c.toInt = 45 by omega), if_neg (show ¬ c.toInt = 47 by omega), if_neg (show ¬ c.toInt = 60 by omega), if_neg (show ¬ c.toInt = 61 by omega), if_neg (show ¬ c.toInt = 62 by omega)] at hQ; first | exact hQ | exact jq_pos hQ (by assumption) | exact jq_neg hQ (by assumption) | exact jq_pos (jq_pos hQ (by assumption)) (by assumption) | exact jq_neg (jq_pos hQ (by assumption)) (by assumption) | exact jq_pos (jq_neg hQ (by assumption)) (by assumption) | exact jq_neg (jq_neg hQ (by assumption)) (by assumption)
                                    · refine jr_ic rfl ?_
                                      refine jr_goto rfl ?_
                                      refine jr_iret rfl rfl (Nat.zero_le _) (Nat.zero_le _) ?_
                                      rw [jw_two, if_neg (show ¬ c.toInt = 37 by omega), if_neg (show ¬ c.toInt = 38 by omega), if_neg (show ¬ c.toInt = 42 by omega), if_neg (show ¬ c.toInt = 43 by omega), if_neg (show ¬ c.toInt = 45 by omega), if_neg (show ¬ c.toInt = 47 by omega), if_neg (show ¬ c.toInt = 60 by omega), if_neg (show ¬ c.toInt = 61 by omega), if_neg (show ¬ c.toInt = 62 by omega)] at hQ; first | exact hQ | exact jq_pos hQ (by assumption) | exact jq_neg hQ (by assumption) | exact jq_pos (jq_pos hQ (by assumption)) (by assumption) | exact jq_neg (jq_pos hQ (by assumption)) (by assumption) | exact jq_pos (jq_neg hQ (by assumption)) (by assumption) | exact jq_neg (jq_neg hQ (by assumption)) (by assumption)
                                · skip
                                  refine ⟨fun c1 => ?_, fun n1_53 => ?_⟩
                                  · refine jr_iload rfl rfl ?_
                                    refine jr_if_ne rfl (fun c60 => ?_) (fun c60 => ?_)
                                    · refine jr_ic rfl ?_
                                      refine jr_goto rfl ?_
                                      refine jr_iret rfl rfl (Nat.zero_le _) (Nat.zero_le _) ?_
                                      rw [jw_two, if_neg (show ¬ c.toInt = 37 by omega), if_neg (show ¬ c.toInt = 38 by omega), if_neg (show ¬ c.toInt = 42 by omega), if_neg (show ¬ c.toInt = 43 by omega), if_neg (show ¬ c.toInt = 45 by omega), if_neg (show ¬ c.toInt = 47 by omega), if_neg (show ¬ c.toInt = 60 by omega), if_neg (show ¬ c.toInt = 61 by omega), if_neg (show ¬ c.toInt = 62 by omega)] at hQ; first | exact hQ | exact jq_pos hQ (by assumption) | exact jq_neg hQ (by assumption) | exact jq_pos (jq_pos hQ (by assumption)) (by assumption) | exact jq_neg (jq_pos hQ (by assumption)) (by assumption) | exact jq_pos (jq_neg hQ (by assumption)) (by assumption) | exact jq_neg (jq_neg hQ (by assumption)) (by assumption)
                                    · refine jr_iload rfl rfl ?_
                                      refine jr_if_eq rfl (fun c62 => ?_) (fun c62 => ?_)
                                      · refine jr_ic rfl ?_
                                        refine jr_iret rfl rfl (Nat.zero_le _) (Nat.zero_le _) ?_
                                        rw [jw_two, if_neg (show ¬ c.toInt = 37 by omega), if_neg (show ¬ c.toInt = 38 by omega), if_neg (show ¬ c.toInt = 42 by omega), if_neg (show ¬ c.toInt = 43 by omega), if_neg (show ¬ c.toInt = 45 by omega), if_neg (show ¬ c.toInt = 47 by omega), if_neg (show ¬ c.toInt = 60 by omega), if_neg (show ¬ c.toInt = 61 by omega), if_neg (show ¬ c.toInt = 62 by omega)] at hQ; first | exact hQ | exact jq_pos hQ (by assumption) | exact jq_neg hQ (by assumption) | exact jq_pos (jq_pos hQ (by assumption)) (by assumption) | exact jq_neg (jq_pos hQ (by assumption)) (by assumption) | exact jq_pos (jq_neg hQ (by assumption)) (by assumption) | exact jq_neg (jq_neg hQ (by assumption)) (by assumption)
                                      · refine jr_ic rfl ?_
                                        refine jr_goto rfl ?_
                                        refine jr_iret rfl rfl (Nat.zero_le _) (Nat.zero_le _) ?_
                                        rw [jw_two, if_neg (show ¬ c.toInt = 37 by omega), if_neg (show ¬ c.toInt = 38 by omega), if_neg (show ¬ c.toInt = 42 by omega), if_neg (show ¬ c.toInt = 43 by omega), if_neg (show ¬ c.toInt = 45 by omega), if_neg (show ¬ c.toInt = 47 by omega), if_neg (show ¬ c.toInt = 60 by omega), if_neg (show ¬ c.toInt = 61 by omega), if_neg (show ¬ c.toInt = 62 by omega)] at hQ; first | exact hQ | exact jq_pos hQ (by assumption) | exact jq_neg hQ (by assumption) | exact jq_pos (jq_pos hQ (by assumption)) (by assumption) | exact jq_neg (jq_pos hQ (by assumption)) (by assumption) | exact jq_pos (jq_neg hQ (by assumption)) (by assumption) | exact jq_neg (jq_neg hQ (by assumption)) (by assumption)
                                  · skip
                                    refine ⟨fun c1 => ?_, fun n1_54 => ?_⟩
                                    · refine jr_iload rfl rfl ?_
                                      refine jr_if_ne rfl (fun c60 => ?_) (fun c60 => ?_)
                                      · refine jr_ic rfl ?_
                                        refine jr_goto rfl ?_
                                        refine jr_iret rfl rfl (Nat.zero_le _) (Nat.zero_le _) ?_
                                        rw [jw_two, if_neg (show ¬ c.toInt = 37 by omega), if_neg (show ¬ c.toInt = 38 by omega), if_neg (show ¬ c.toInt = 42 by omega), if_neg (show ¬ c.toInt = 43 by omega), if_neg (show ¬ c.toInt = 45 by omega), if_neg (show ¬ c.toInt = 47 by omega), if_neg (show ¬ c.toInt = 60 by omega), if_neg (show ¬ c.toInt = 61 by omega), if_neg (show ¬ c.toInt = 62 by omega)] at hQ; first | exact hQ | exact jq_pos hQ (by assumption) | exact jq_neg hQ (by assumption) | exact jq_pos (jq_pos hQ (by assumption)) (by assumption) | exact jq_neg (jq_pos hQ (by assumption)) (by assumption) | exact jq_pos (jq_neg hQ (by assumption)) (by assumption) | exact jq_neg (jq_neg hQ (by assumption)) (by assumption)
                                      · refine jr_iload rfl rfl ?_
                                        refine jr_if_eq rfl (fun c62 => ?_) (fun c62 => ?_)
                                        · refine jr_ic rfl ?_
                                          refine jr_iret rfl rfl (Nat.zero_le _) (Nat.zero_le _) ?_
                                          rw [jw_two, if_neg (show ¬ c.toInt = 37 by omega), if_neg (show ¬ c.toInt = 38 by omega), if_neg (show ¬ c.toInt = 42 by omega), if_neg (show ¬ c.toInt = 43 by omega), if_neg (show ¬ c.toInt = 45 by omega), if_neg (show ¬ c.toInt = 47 by omega), if_neg (show ¬ c.toInt = 60 by omega), if_neg (show ¬ c.toInt = 61 by omega), if_neg (show ¬ c.toInt = 62 by omega)] at hQ; first | exact hQ | exact jq_pos hQ (by assumption) | exact jq_neg hQ (by assumption) | exact jq_pos (jq_pos hQ (by assumption)) (by assumption) | exact jq_neg (jq_pos hQ (by assumption)) (by assumption) | exact jq_pos (jq_neg hQ (by assumption)) (by assumption) | exact jq_neg (jq_neg hQ (by assumption)) (by assumption)
                                        · refine jr_ic rfl ?_
                                          refine jr_goto rfl ?_
                                          refine jr_iret rfl rfl (Nat.zero_le _) (Nat.zero_le _) ?_
                                          rw [jw_two, if_neg (show ¬ c.toInt = 37 by omega), if_neg (show ¬ c.toInt = 38 by omega), if_neg (show ¬ c.toInt = 42 by omega), if_neg (show ¬ c.toInt = 43 by omega), if_neg (show ¬ c.toInt = 45 by omega), if_neg (show ¬ c.toInt = 47 by omega), if_neg (show ¬ c.toInt = 60 by omega), if_neg (show ¬ c.toInt = 61 by omega), if_neg (show ¬ c.toInt = 62 by omega)] at hQ; first | exact hQ | exact jq_pos hQ (by assumption) | exact jq_neg hQ (by assumption) | exact jq_pos (jq_pos hQ (by assumption)) (by assumption) | exact jq_neg (jq_pos hQ (by assumption)) (by assumption) | exact jq_pos (jq_neg hQ (by assumption)) (by assumption) | exact jq_neg (jq_neg hQ (by assumption)) (by assumption)
                                    · skip
                                      refine ⟨fun c1 => ?_, fun n1_55 => ?_⟩
                                      · refine jr_iload rfl rfl ?_
                                        refine jr_if_ne rfl (fun c60 => ?_) (fun c60 => ?_)
                                        · refine jr_ic rfl ?_
                                          refine jr_goto rfl ?_
                                          refine jr_iret rfl rfl (Nat.zero_le _) (Nat.zero_le _) ?_
                                          rw [jw_two, if_neg (show ¬ c.toInt = 37 by omega), if_neg (show ¬ c.toInt = 38 by omega), if_neg (show ¬ c.toInt = 42 by omega), if_neg (show ¬ c.toInt = 43 by omega), if_neg (show ¬ c.toInt = 45 by omega), if_neg (show ¬ c.toInt = 47 by omega), if_neg (show ¬ c.toInt = 60 by omega), if_neg (show ¬ c.toInt = 61 by omega), if_neg (show ¬ c.toInt = 62 by omega)] at hQ; first | exact hQ | exact jq_pos hQ (by assumption) | exact jq_neg hQ (by assumption) | exact jq_pos (jq_pos hQ (by assumption)) (by assumption) | exact jq_neg (jq_pos hQ (by assumption)) (by assumption) | exact jq_pos (jq_neg hQ (by assumption)) (by assumption) | exact jq_neg (jq_neg hQ (by assumption)) (by assumption)
                                        · refine jr_iload rfl rfl ?_
                                          refine jr_if_eq rfl (fun c62 => ?_) (fun c62 => ?_)
                                          · refine jr_ic rfl ?_
                                            refine jr_iret rfl rfl (Nat.zero_le _) (Nat.zero_le _) ?_
                                            rw [jw_two, if_neg (show ¬ c.toInt = 37 by omega), if_neg (show ¬ c.toInt = 38 by omega), if_neg (show ¬ c.toInt = 42 by omega), if_neg (show ¬ c.toInt = 43 by omega), if_neg (show ¬ c.toInt = 45 by omega), if_neg (show ¬ c.toInt = 47 by omega), if_neg (show ¬ c.toInt = 60 by omega), if_neg (show ¬ c.toInt = 61 by omega), if_neg (show ¬ c.toInt = 62 by omega)] at hQ; first | exact hQ | exact jq_pos hQ (by assumption) | exact jq_neg hQ (by assumption) | exact jq_pos (jq_pos hQ (by assumption)) (by assumption) | exact jq_neg (jq_pos hQ (by assumption)) (by assumption) | exact jq_pos (jq_neg hQ (by assumption)) (by assumption) | exact jq_neg (jq_neg hQ (by assumption)) (by assumption)
                                          · refine jr_ic rfl ?_
                                            refine jr_goto rfl ?_
                                            refine jr_iret rfl rfl (Nat.zero_le _) (Nat.zero_le _) ?_
                                            rw [jw_two, if_neg (show ¬ c.toInt = 37 by omega), if_neg (show ¬ c.toInt = 38 by omega), if_neg (show ¬ c.toInt = 42 by omega), if_neg (show ¬ c.toInt = 43 by omega), if_neg (show ¬ c.toInt = 45 by omega), if_neg (show ¬ c.toInt = 47 by omega), if_neg (show ¬ c.toInt = 60 by omega), if_neg (show ¬ c.toInt = 61 by omega), if_neg (show ¬ c.toInt = 62 by omega)] at hQ; first | exact hQ | exact jq_pos hQ (by assumption) | exact jq_neg hQ (by assumption) | exact jq_pos (jq_pos hQ (by assumption)) (by assumption) | exact jq_neg (jq_pos hQ (by assumption)) (by assumption) | exact jq_pos (jq_neg hQ (by assumption)) (by assumption) | exact jq_neg (jq_neg hQ (by assumption)) (by assumption)
                                      · skip
                                        refine ⟨fun c1 => ?_, fun n1_56 => ?_⟩
                                        · refine jr_iload rfl rfl ?_
                                          refine jr_if_ne rfl (fun c60 => ?_) (fun c60 => ?_)
                                          · refine jr_ic rfl ?_
                                            refine jr_goto rfl ?_
                                            refine jr_iret rfl rfl (Nat.zero_le _) (Nat.zero_le _) ?_
                                            rw [jw_two, if_neg (show ¬ c.toInt = 37 by omega), if_neg (show ¬ c.toInt = 38 by omega), if_neg (show ¬ c.toInt = 42 by omega), if_neg (show ¬ c.toInt = 43 by omega), if_neg (show ¬ c.toInt = 45 by omega), if_neg (show ¬ c.toInt = 47 by omega), if_neg (show ¬ c.toInt = 60 by omega), if_neg (show ¬ c.toInt = 61 by omega), if_neg (show ¬ c.toInt = 62 by omega)] at hQ; first | exact hQ | exact jq_pos hQ (by assumption) | exact jq_neg hQ (by assumption) | exact jq_pos (jq_pos hQ (by assumption)) (by assumption) | exact jq_neg (jq_pos hQ (by assumption)) (by assumption) | exact jq_pos (jq_neg hQ (by assumption)) (by assumption) | exact jq_neg (jq_neg hQ (by assumption)) (by assumption)
                                          · refine jr_iload rfl rfl ?_
                                            refine jr_if_eq rfl (fun c62 => ?_) (fun c62 => ?_)
                                            · refine jr_ic rfl ?_
                                              refine jr_iret rfl rfl (Nat.zero_le _) (Nat.zero_le _) ?_
                                              rw [jw_two, if_neg (show ¬ c.toInt = 37 by omega), if_neg (show ¬ c.toInt = 38 by omega), if_neg (show ¬ c.toInt = 42 by omega), if_neg (show ¬ c.toInt = 43 by omega), if_neg (show ¬ c.toInt = 45 by omega), if_neg (show ¬ c.toInt = 47 by omega), if_neg (show ¬ c.toInt = 60 by omega), if_neg (show ¬ c.toInt = 61 by omega), if_neg (show ¬ c.toInt = 62 by omega)] at hQ; first | exact hQ | exact jq_pos hQ (by assumption) | exact jq_neg hQ (by assumption) | exact jq_pos (jq_pos hQ (by assumption)) (by assumption) | exact jq_neg (jq_pos hQ (by assumption)) (by assumption) | exact jq_pos (jq_neg hQ (by assumption)) (by assumption) | exact jq_neg (jq_neg hQ (by assumption)) (by assumption)
                                            · refine jr_ic rfl ?_
                                              refine jr_goto rfl ?_
                                              refine jr_iret rfl rfl (Nat.zero_le _) (Nat.zero_le _) ?_
                                              rw [jw_two, if_neg (show ¬ c.toInt = 37 by omega), if_neg (show ¬ c.toInt = 38 by omega), if_neg (show ¬ c.toInt = 42 by omega), if_neg (show ¬ c.toInt = 43 by omega), if_neg (show ¬ c.toInt = 45 by omega), if_neg (show ¬ c.toInt = 47 by omega), if_neg (show ¬ c.toInt = 60 by omega), if_neg (show ¬ c.toInt = 61 by omega), if_neg (show ¬ c.toInt = 62 by omega)] at hQ; first | exact hQ | exact jq_pos hQ (by assumption) | exact jq_neg hQ (by assumption) | exact jq_pos (jq_pos hQ (by assumption)) (by assumption) | exact jq_neg (jq_pos hQ (by assumption)) (by assumption) | exact jq_pos (jq_neg hQ (by assumption)) (by assumption) | exact jq_neg (jq_neg hQ (by assumption)) (by assumption)
                                        · skip
                                          refine ⟨fun c1 => ?_, fun n1_57 => ?_⟩
                                          · refine jr_iload rfl rfl ?_
                                            refine jr_if_ne rfl (fun c60 => ?_) (fun c60 => ?_)
                                            · refine jr_ic rfl ?_
                                              refine jr_goto rfl ?_
                                              refine jr_iret rfl rfl (Nat.zero_le _) (Nat.zero_le _) ?_
                                              rw [jw_two, if_neg (show ¬ c.toInt = 37 by omega), if_neg (show ¬ c.toInt = 38 by omega), if_neg (show ¬ c.toInt = 42 by omega), if_neg (show ¬ c.toInt = 43 by omega), if_neg (show ¬ c.toInt = 45 by omega), if_neg (show ¬ c.toInt = 47 by omega), if_neg (show ¬ c.toInt = 60 by omega), if_neg (show ¬ c.toInt = 61 by omega), if_neg (show ¬ c.toInt = 62 by omega)] at hQ; first | exact hQ | exact jq_pos hQ (by assumption) | exact jq_neg hQ (by assumption) | exact jq_pos (jq_pos hQ (by assumption)) (by assumption) | exact jq_neg (jq_pos hQ (by assumption)) (by assumption) | exact jq_pos (jq_neg hQ (by assumption)) (by assumption) | exact jq_neg (jq_neg hQ (by assumption)) (by assumption)
                                            · refine jr_iload rfl rfl ?_
                                              refine jr_if_eq rfl (fun c62 => ?_) (fun c62 => ?_)
                                              · refine jr_ic rfl ?_
                                                refine jr_iret rfl rfl (Nat.zero_le _) (Nat.zero_le _) ?_
                                                rw [jw_two, if_neg (show ¬ c.toInt = 37 by omega), if_neg (show ¬ c.toInt = 38 by omega), if_neg (show ¬ c.toInt = 42 by omega), if_neg (show ¬ c.toInt = 43 by omega), if_neg (show ¬ c.toInt = 45 by omega), if_neg (show ¬ c.toInt = 47 by omega), if_neg (show ¬ c.toInt = 60 by omega), if_neg (show ¬ c.toInt = 61 by omega), if_neg (show ¬ c.toInt = 62 by omega)] at hQ; first | exact hQ | exact jq_pos hQ (by assumption) | exact jq_neg hQ (by assumption) | exact jq_pos (jq_pos hQ (by assumption)) (by assumption) | exact jq_neg (jq_pos hQ (by assumption)) (by assumption) | exact jq_pos (jq_neg hQ (by assumption)) (by assumption) | exact jq_neg (jq_neg hQ (by assumption)) (by assumption)
                                              · refine jr_ic rfl ?_
                                                refine jr_goto rfl ?_
                                                refine jr_iret rfl rfl (Nat.zero_le _) (Nat.zero_le _) ?_
                                                rw [jw_two, if_neg (show ¬ c.toInt = 37 by omega), if_neg (show ¬ c.toInt = 38 by omega), if_neg (show ¬ c.toInt = 42 by omega), if_neg (show ¬ c.toInt = 43 by omega), if_neg (show ¬ c.toInt = 45 by omega), if_neg (show ¬ c.toInt = 47 by omega), if_neg (show ¬ c.toInt = 60 by omega), if_neg (show ¬ c.toInt = 61 by omega), if_neg (show ¬ c.toInt = 62 by omega)] at hQ; first | exact hQ | exact jq_pos hQ (by assumption) | exact jq_neg hQ (by assumption) | exact jq_pos (jq_pos hQ (by assumption)) (by assumption) | exact jq_neg (jq_pos hQ (by assumption)) (by assumption) | exact jq_pos (jq_neg hQ (by assumption)) (by assumption) | exact jq_neg (jq_neg hQ (by assumption)) (by assumption)
                                          · skip
                                            refine ⟨fun c1 => ?_, fun n1_58 => ?_⟩
                                            · refine jr_iload rfl rfl ?_
                                              refine jr_if_ne rfl (fun c60 => ?_) (fun c60 => ?_)
                                              · refine jr_ic rfl ?_
                                                refine jr_goto rfl ?_
                                                refine jr_iret rfl rfl (Nat.zero_le _) (Nat.zero_le _) ?_
                                                rw [jw_two, if_neg (show ¬ c.toInt = 37 by omega), if_neg (show ¬ c.toInt = 38 by omega), if_neg (show ¬ c.toInt = 42 by omega), if_neg (show ¬ c.toInt = 43 by omega), if_neg (show ¬ c.toInt = 45 by omega), if_neg (show ¬ c.toInt = 47 by omega), if_neg (show ¬ c.toInt = 60 by omega), if_neg (show ¬ c.toInt = 61 by omega), if_neg (show ¬ c.toInt = 62 by omega)] at hQ; first | exact hQ | exact jq_pos hQ (by assumption) | exact jq_neg hQ (by assumption) | exact jq_pos (jq_pos hQ (by assumption)) (by assumption) | exact jq_neg (jq_pos hQ (by assumption)) (by assumption) | exact jq_pos (jq_neg hQ (by assumption)) (by assumption) | exact jq_neg (jq_neg hQ (by assumption)) (by assumption)
                                              · refine jr_iload rfl rfl ?_
                                                refine jr_if_eq rfl (fun c62 => ?_) (fun c62 => ?_)
                                                · refine jr_ic rfl ?_
                                                  refine jr_iret rfl rfl (Nat.zero_le _) (Nat.zero_le _) ?_
                                                  rw [jw_two, if_neg (show ¬ c.toInt = 37 by omega), if_neg (show ¬ c.toInt = 38 by omega), if_neg (show ¬ c.toInt = 42 by omega), if_neg (show ¬ c.toInt = 43 by omega), if_neg (show ¬ c.toInt = 45 by omega), if_neg (show ¬ c.toInt = 47 by omega), if_neg (show ¬ c.toInt = 60 by omega), if_neg (show ¬ c.toInt = 61 by omega), if_neg (show ¬ c.toInt = 62 by omega)] at hQ; first | exact hQ | exact jq_pos hQ (by assumption) | exact jq_neg hQ (by assumption) | exact jq_pos (jq_pos hQ (by assumption)) (by assumption) | exact jq_neg (jq_pos hQ (by assumption)) (by assumption) | exact jq_pos (jq_neg hQ (by assumption)) (by assumption) | exact jq_neg (jq_neg hQ (by assumption)) (by assumption)
                                                · refine jr_ic rfl ?_
                                                  refine jr_goto rfl ?_
                                                  refine jr_iret rfl rfl (Nat.zero_le _) (Nat.zero_le _) ?_
                                                  rw [jw_two, if_neg (show ¬ c.toInt = 37 by omega), if_neg (show ¬ c.toInt = 38 by omega), if_neg (show ¬ c.toInt = 42 by omega), if_neg (show ¬ c.toInt = 43 by omega), if_neg (show ¬ c.toInt = 45 by omega), if_neg (show ¬ c.toInt = 47 by omega), if_neg (show ¬ c.toInt = 60 by omega), if_neg (show ¬ c.toInt = 61 by omega), if_neg (show ¬ c.toInt = 62 by omega)] at hQ; first | exact hQ | exact jq_pos hQ (by assumption) | exact jq_neg hQ (by assumption) | exact jq_pos (jq_pos hQ (by assumption)) (by assumption) | exact jq_neg (jq_pos hQ (by assumption)) (by assumption) | exact jq_pos (jq_neg hQ (by assumption)) (by assumption) | exact jq_neg (jq_neg hQ (by assumption)) (by assumption)
                                            · skip
                                              refine ⟨fun c1 => ?_, fun n1_59 => ?_⟩
                                              · refine jr_iload rfl rfl ?_
                                                refine jr_if_ne rfl (fun c60 => ?_) (fun c60 => ?_)
                                                · refine jr_ic rfl ?_
                                                  refine jr_goto rfl ?_
                                                  refine jr_iret rfl rfl (Nat.zero_le _) (Nat.zero_le _) ?_
                                                  rw [jw_two, if_neg (show ¬ c.toInt = 37 by omega), if_neg (show ¬ c.toInt = 38 by omega), if_neg (show ¬ c.toInt = 42 by omega), if_neg (show ¬ c.toInt = 43 by omega), if_neg (show ¬ c.toInt = 45 by omega), if_neg (show ¬ c.toInt = 47 by omega), if_neg (show ¬ c.toInt = 60 by omega), if_neg (show ¬ c.toInt = 61 by omega), if_neg (show ¬ c.toInt = 62 by omega)] at hQ; first | exact hQ | exact jq_pos hQ (by assumption) | exact jq_neg hQ (by assumption) | exact jq_pos (jq_pos hQ (by assumption)) (by assumption) | exact jq_neg (jq_pos hQ (by assumption)) (by assumption) | exact jq_pos (jq_neg hQ (by assumption)) (by assumption) | exact jq_neg (jq_neg hQ (by assumption)) (by assumption)
                                                · refine jr_iload rfl rfl ?_
                                                  refine jr_if_eq rfl (fun c62 => ?_) (fun c62 => ?_)
                                                  · refine jr_ic rfl ?_
                                                    refine jr_iret rfl rfl (Nat.zero_le _) (Nat.zero_le _) ?_
                                                    rw [jw_two, if_neg (show ¬ c.toInt = 37 by omega), if_neg (show ¬ c.toInt = 38 by omega), if_neg (show ¬ c.toInt = 42 by omega), if_neg (show ¬ c.toInt = 43 by omega), if_neg (show ¬ c.toInt = 45 by omega), if_neg (show ¬ c.toInt = 47 by omega), if_neg (show ¬ c.toInt = 60 by omega), if_neg (show ¬ c.toInt = 61 by omega), if_neg (show ¬ c.toInt = 62 by omega)] at hQ; first | exact hQ | exact jq_pos hQ (by assumption) | exact jq_neg hQ (by assumption) | exact jq_pos (jq_pos hQ (by assumption)) (by assumption) | exact jq_neg (jq_pos hQ (by assumption)) (by assumption) | exact jq_pos (jq_neg hQ (by assumption)) (by assumption) | exact jq_neg (jq_neg hQ (by assumption)) (by assumption)
                                                  · refine jr_ic rfl ?_
                                                    refine jr_goto rfl ?_
                                                    refine jr_iret rfl rfl (Nat.zero_le _) (Nat.zero_le _) ?_
                                                    rw [jw_two, if_neg (show ¬ c.toInt = 37 by omega), if_neg (show ¬ c.toInt = 38 by omega), if_neg (show ¬ c.toInt = 42 by omega), if_neg (show ¬ c.toInt = 43 by omega), if_neg (show ¬ c.toInt = 45 by omega), if_neg (show ¬ c.toInt = 47 by omega), if_neg (show ¬ c.toInt = 60 by omega), if_neg (show ¬ c.toInt = 61 by omega), if_neg (show ¬ c.toInt = 62 by omega)] at hQ; first | exact hQ | exact jq_pos hQ (by assumption) | exact jq_neg hQ (by assumption) | exact jq_pos (jq_pos hQ (by assumption)) (by assumption) | exact jq_neg (jq_pos hQ (by assumption)) (by assumption) | exact jq_pos (jq_neg hQ (by assumption)) (by assumption) | exact jq_neg (jq_neg hQ (by assumption)) (by assumption)
                                              · skip
                                                refine ⟨fun c1 => ?_, fun n1_60 => ?_⟩
                                                · refine jr_iload rfl rfl ?_
                                                  refine jr_iload rfl rfl ?_
                                                  refine jr_icmp_ge rfl (fun c32 => ?_) (fun c32 => ?_)
                                                  · refine jr_ic rfl ?_
                                                    refine jr_iret rfl rfl (Nat.zero_le _) (Nat.zero_le _) ?_
                                                    rw [jw_two, if_neg (show ¬ c.toInt = 37 by omega), if_neg (show ¬ c.toInt = 38 by omega), if_neg (show ¬ c.toInt = 42 by omega), if_neg (show ¬ c.toInt = 43 by omega), if_neg (show ¬ c.toInt = 45 by omega), if_neg (show ¬ c.toInt = 47 by omega), if_pos c1] at hQ; first | exact hQ | exact jq_pos hQ (by assumption) | exact jq_neg hQ (by assumption) | exact jq_pos (jq_pos hQ (by assumption)) (by assumption) | exact jq_neg (jq_pos hQ (by assumption)) (by assumption) | exact jq_pos (jq_neg hQ (by assumption)) (by assumption) | exact jq_neg (jq_neg hQ (by assumption)) (by assumption)
                                                  · refine jr_ic rfl ?_
                                                    refine jr_goto rfl ?_
                                                    refine jr_iret rfl rfl (Nat.zero_le _) (Nat.zero_le _) ?_
                                                    rw [jw_two, if_neg (show ¬ c.toInt = 37 by omega), if_neg (show ¬ c.toInt = 38 by omega), if_neg (show ¬ c.toInt = 42 by omega), if_neg (show ¬ c.toInt = 43 by omega), if_neg (show ¬ c.toInt = 45 by omega), if_neg (show ¬ c.toInt = 47 by omega), if_pos c1] at hQ; first | exact hQ | exact jq_pos hQ (by assumption) | exact jq_neg hQ (by assumption) | exact jq_pos (jq_pos hQ (by assumption)) (by assumption) | exact jq_neg (jq_pos hQ (by assumption)) (by assumption) | exact jq_pos (jq_neg hQ (by assumption)) (by assumption) | exact jq_neg (jq_neg hQ (by assumption)) (by assumption)
                                                · skip
                                                  refine ⟨fun c1 => ?_, fun n1_61 => ?_⟩
                                                  · refine jr_iload rfl rfl ?_
                                                    refine jr_iload rfl rfl ?_
                                                    refine jr_icmp_ne rfl (fun c46 => ?_) (fun c46 => ?_)
                                                    · refine jr_ic rfl ?_
                                                      refine jr_iret rfl rfl (Nat.zero_le _) (Nat.zero_le _) ?_
                                                      rw [jw_two, if_neg (show ¬ c.toInt = 37 by omega), if_neg (show ¬ c.toInt = 38 by omega), if_neg (show ¬ c.toInt = 42 by omega), if_neg (show ¬ c.toInt = 43 by omega), if_neg (show ¬ c.toInt = 45 by omega), if_neg (show ¬ c.toInt = 47 by omega), if_neg (show ¬ c.toInt = 60 by omega), if_pos c1] at hQ; first | exact hQ | exact jq_pos hQ (by assumption) | exact jq_neg hQ (by assumption) | exact jq_pos (jq_pos hQ (by assumption)) (by assumption) | exact jq_neg (jq_pos hQ (by assumption)) (by assumption) | exact jq_pos (jq_neg hQ (by assumption)) (by assumption) | exact jq_neg (jq_neg hQ (by assumption)) (by assumption)
                                                    · refine jr_ic rfl ?_
                                                      refine jr_goto rfl ?_
                                                      refine jr_iret rfl rfl (Nat.zero_le _) (Nat.zero_le _) ?_
                                                      rw [jw_two, if_neg (show ¬ c.toInt = 37 by omega), if_neg (show ¬ c.toInt = 38 by omega), if_neg (show ¬ c.toInt = 42 by omega), if_neg (show ¬ c.toInt = 43 by omega), if_neg (show ¬ c.toInt = 45 by omega), if_neg (show ¬ c.toInt = 47 by omega), if_neg (show ¬ c.toInt = 60 by omega), if_pos c1] at hQ; first | exact hQ | exact jq_pos hQ (by assumption) | exact jq_neg hQ (by assumption) | exact jq_pos (jq_pos hQ (by assumption)) (by assumption) | exact jq_neg (jq_pos hQ (by assumption)) (by assumption) | exact jq_pos (jq_neg hQ (by assumption)) (by assumption) | exact jq_neg (jq_neg hQ (by assumption)) (by assumption)
                                                  · skip
                                                    refine ⟨fun c1 => ?_, fun n1_62 => ?_⟩
                                                    · refine jr_iload rfl rfl ?_
                                                      refine jr_iload rfl rfl ?_
                                                      refine jr_icmp_le rfl (fun c39 => ?_) (fun c39 => ?_)
                                                      · refine jr_ic rfl ?_
                                                        refine jr_iret rfl rfl (Nat.zero_le _) (Nat.zero_le _) ?_
                                                        rw [jw_two, if_neg (show ¬ c.toInt = 37 by omega), if_neg (show ¬ c.toInt = 38 by omega), if_neg (show ¬ c.toInt = 42 by omega), if_neg (show ¬ c.toInt = 43 by omega), if_neg (show ¬ c.toInt = 45 by omega), if_neg (show ¬ c.toInt = 47 by omega), if_neg (show ¬ c.toInt = 60 by omega), if_neg (show ¬ c.toInt = 61 by omega), if_pos c1] at hQ; first | exact hQ | exact jq_pos hQ (by assumption) | exact jq_neg hQ (by assumption) | exact jq_pos (jq_pos hQ (by assumption)) (by assumption) | exact jq_neg (jq_pos hQ (by assumption)) (by assumption) | exact jq_pos (jq_neg hQ (by assumption)) (by assumption) | exact jq_neg (jq_neg hQ (by assumption)) (by assumption)
                                                      · refine jr_ic rfl ?_
                                                        refine jr_goto rfl ?_
                                                        refine jr_iret rfl rfl (Nat.zero_le _) (Nat.zero_le _) ?_
                                                        rw [jw_two, if_neg (show ¬ c.toInt = 37 by omega), if_neg (show ¬ c.toInt = 38 by omega), if_neg (show ¬ c.toInt = 42 by omega), if_neg (show ¬ c.toInt = 43 by omega), if_neg (show ¬ c.toInt = 45 by omega), if_neg (show ¬ c.toInt = 47 by omega), if_neg (show ¬ c.toInt = 60 by omega), if_neg (show ¬ c.toInt = 61 by omega), if_pos c1] at hQ; first | exact hQ | exact jq_pos hQ (by assumption) | exact jq_neg hQ (by assumption) | exact jq_pos (jq_pos hQ (by assumption)) (by assumption) | exact jq_neg (jq_pos hQ (by assumption)) (by assumption) | exact jq_pos (jq_neg hQ (by assumption)) (by assumption) | exact jq_neg (jq_neg hQ (by assumption)) (by assumption)
                                                    · skip
                                                      refine jr_iload rfl rfl ?_
                                                      refine jr_if_ne rfl (fun c60 => ?_) (fun c60 => ?_)
                                                      · refine jr_ic rfl ?_
                                                        refine jr_goto rfl ?_
                                                        refine jr_iret rfl rfl (Nat.zero_le _) (Nat.zero_le _) ?_
                                                        rw [jw_two, if_neg (show ¬ c.toInt = 37 by omega), if_neg (show ¬ c.toInt = 38 by omega), if_neg (show ¬ c.toInt = 42 by omega), if_neg (show ¬ c.toInt = 43 by omega), if_neg (show ¬ c.toInt = 45 by omega), if_neg (show ¬ c.toInt = 47 by omega), if_neg (show ¬ c.toInt = 60 by omega), if_neg (show ¬ c.toInt = 61 by omega), if_neg (show ¬ c.toInt = 62 by omega)] at hQ; first | exact hQ | exact jq_pos hQ (by assumption) | exact jq_neg hQ (by assumption) | exact jq_pos (jq_pos hQ (by assumption)) (by assumption) | exact jq_neg (jq_pos hQ (by assumption)) (by assumption) | exact jq_pos (jq_neg hQ (by assumption)) (by assumption) | exact jq_neg (jq_neg hQ (by assumption)) (by assumption)
                                                      · refine jr_iload rfl rfl ?_
                                                        refine jr_if_eq rfl (fun c62 => ?_) (fun c62 => ?_)
                                                        · refine jr_ic rfl ?_
                                                          refine jr_iret rfl rfl (Nat.zero_le _) (Nat.zero_le _) ?_
                                                          rw [jw_two, if_neg (show ¬ c.toInt = 37 by omega), if_neg (show ¬ c.toInt = 38 by omega), if_neg (show ¬ c.toInt = 42 by omega), if_neg (show ¬ c.toInt = 43 by omega), if_neg (show ¬ c.toInt = 45 by omega), if_neg (show ¬ c.toInt = 47 by omega), if_neg (show ¬ c.toInt = 60 by omega), if_neg (show ¬ c.toInt = 61 by omega), if_neg (show ¬ c.toInt = 62 by omega)] at hQ; first | exact hQ | exact jq_pos hQ (by assumption) | exact jq_neg hQ (by assumption) | exact jq_pos (jq_pos hQ (by assumption)) (by assumption) | exact jq_neg (jq_pos hQ (by assumption)) (by assumption) | exact jq_pos (jq_neg hQ (by assumption)) (by assumption) | exact jq_neg (jq_neg hQ (by assumption)) (by assumption)
                                                        · refine jr_ic rfl ?_
                                                          refine jr_goto rfl ?_
                                                          refine jr_iret rfl rfl (Nat.zero_le _) (Nat.zero_le _) ?_
                                                          rw [jw_two, if_neg (show ¬ c.toInt = 37 by omega), if_neg (show ¬ c.toInt = 38 by omega), if_neg (show ¬ c.toInt = 42 by omega), if_neg (show ¬ c.toInt = 43 by omega), if_neg (show ¬ c.toInt = 45 by omega), if_neg (show ¬ c.toInt = 47 by omega), if_neg (show ¬ c.toInt = 60 by omega), if_neg (show ¬ c.toInt = 61 by omega), if_neg (show ¬ c.toInt = 62 by omega)] at hQ; first | exact hQ | exact jq_pos hQ (by assumption) | exact jq_neg hQ (by assumption) | exact jq_pos (jq_pos hQ (by assumption)) (by assumption) | exact jq_neg (jq_pos hQ (by assumption)) (by assumption) | exact jq_pos (jq_neg hQ (by assumption)) (by assumption) | exact jq_neg (jq_neg hQ (by assumption)) (by assumption)

set_option maxHeartbeats 4000000 in
set_option maxRecDepth 100000 in
theorem ev_MD_asked {d : Nat} {h : jx_H} {Q : Option jx_V → jx_H → Prop} {b : Nat} {c x : Int32} (hb : jh_I h 11 0 43 = nI b) (hb2 : b < 2) (hm : ¬ jC h b 0 0 = 0) (hQ : Q (some (jv_i (jw_asked (jC h b) (jA h) (fun i => jh_I h 11 0 (49 + i)) c x))) h) : jx_Ev jm_MD_asked (d + 1) 0 0 false 1 [jv_r 11 0, jv_i c, jv_i x] h Q := by
  show jx_W (jm_MD_asked, d + 1, 0, 0, false, 1, jh_n h) Q 0 0 0 [some (jv_r 11 0), some (jv_i c), some (jv_i x)] [] h
  refine jr_iload rfl rfl ?_
  refine jr_tsw rfl ?_
  refine ⟨fun c1 => ?_, fun n1_100 => ?_⟩
  · refine jr_aload rfl rfl ?_
    refine jr_getI rfl rfl ?_
    refine jr_iret rfl rfl (Nat.zero_le _) (Nat.zero_le _) ?_
    rw [jw_asked, if_pos c1] at hQ; first | exact hQ | exact jq_pos hQ (by assumption) | exact jq_neg hQ (by assumption) | exact jq_pos (jq_pos hQ (by assumption)) (by assumption) | exact jq_neg (jq_pos hQ (by assumption)) (by assumption) | exact jq_pos (jq_neg hQ (by assumption)) (by assumption) | exact jq_neg (jq_neg hQ (by assumption)) (by assumption)
  · skip
    refine ⟨fun c1 => ?_, fun n1_101 => ?_⟩
    · refine jr_iload rfl rfl ?_
      refine jr_iret rfl rfl (Nat.zero_le _) (Nat.zero_le _) ?_
      rw [jw_asked, if_neg (show ¬ c.toInt = 100 by omega), if_neg (show ¬ c.toInt = 102 by omega), if_neg (show ¬ c.toInt = 103 by omega), if_neg (show ¬ c.toInt = 104 by omega), if_neg (show ¬ c.toInt = 109 by omega), if_neg (show ¬ c.toInt = 111 by omega), if_neg (show ¬ c.toInt = 121 by omega)] at hQ; first | exact hQ | exact jq_pos hQ (by assumption) | exact jq_neg hQ (by assumption) | exact jq_pos (jq_pos hQ (by assumption)) (by assumption) | exact jq_neg (jq_pos hQ (by assumption)) (by assumption) | exact jq_pos (jq_neg hQ (by assumption)) (by assumption) | exact jq_neg (jq_neg hQ (by assumption)) (by assumption)
    · skip
      refine ⟨fun c1 => ?_, fun n1_102 => ?_⟩
      · refine jr_aload rfl rfl ?_
        refine jr_getI rfl rfl ?_
        refine jr_iret rfl rfl (Nat.zero_le _) (Nat.zero_le _) ?_
        rw [jw_asked, if_neg (show ¬ c.toInt = 100 by omega), if_pos c1] at hQ; first | exact hQ | exact jq_pos hQ (by assumption) | exact jq_neg hQ (by assumption) | exact jq_pos (jq_pos hQ (by assumption)) (by assumption) | exact jq_neg (jq_pos hQ (by assumption)) (by assumption) | exact jq_pos (jq_neg hQ (by assumption)) (by assumption) | exact jq_neg (jq_neg hQ (by assumption)) (by assumption)
      · skip
        refine ⟨fun c1 => ?_, fun n1_103 => ?_⟩
        · refine jr_aload rfl rfl ?_
          refine jr_getI rfl rfl ?_
          refine jr_iret rfl rfl (Nat.zero_le _) (Nat.zero_le _) ?_
          rw [jw_asked, if_neg (show ¬ c.toInt = 100 by omega), if_neg (show ¬ c.toInt = 102 by omega), if_pos c1] at hQ; first | exact hQ | exact jq_pos hQ (by assumption) | exact jq_neg hQ (by assumption) | exact jq_pos (jq_pos hQ (by assumption)) (by assumption) | exact jq_neg (jq_pos hQ (by assumption)) (by assumption) | exact jq_pos (jq_neg hQ (by assumption)) (by assumption) | exact jq_neg (jq_neg hQ (by assumption)) (by assumption)
        · skip
          refine ⟨fun c1 => ?_, fun n1_104 => ?_⟩
          · refine jr_aload rfl rfl ?_
            refine jr_getI rfl rfl ?_
            refine jr_iret rfl rfl (Nat.zero_le _) (Nat.zero_le _) ?_
            rw [jw_asked, if_neg (show ¬ c.toInt = 100 by omega), if_neg (show ¬ c.toInt = 102 by omega), if_neg (show ¬ c.toInt = 103 by omega), if_pos c1] at hQ; first | exact hQ | exact jq_pos hQ (by assumption) | exact jq_neg hQ (by assumption) | exact jq_pos (jq_pos hQ (by assumption)) (by assumption) | exact jq_neg (jq_pos hQ (by assumption)) (by assumption) | exact jq_pos (jq_neg hQ (by assumption)) (by assumption) | exact jq_neg (jq_neg hQ (by assumption)) (by assumption)
          · skip
            refine ⟨fun c1 => ?_, fun n1_105 => ?_⟩
            · refine jr_iload rfl rfl ?_
              refine jr_iret rfl rfl (Nat.zero_le _) (Nat.zero_le _) ?_
              rw [jw_asked, if_neg (show ¬ c.toInt = 100 by omega), if_neg (show ¬ c.toInt = 102 by omega), if_neg (show ¬ c.toInt = 103 by omega), if_neg (show ¬ c.toInt = 104 by omega), if_neg (show ¬ c.toInt = 109 by omega), if_neg (show ¬ c.toInt = 111 by omega), if_neg (show ¬ c.toInt = 121 by omega)] at hQ; first | exact hQ | exact jq_pos hQ (by assumption) | exact jq_neg hQ (by assumption) | exact jq_pos (jq_pos hQ (by assumption)) (by assumption) | exact jq_neg (jq_pos hQ (by assumption)) (by assumption) | exact jq_pos (jq_neg hQ (by assumption)) (by assumption) | exact jq_neg (jq_neg hQ (by assumption)) (by assumption)
            · skip
              refine ⟨fun c1 => ?_, fun n1_106 => ?_⟩
              · refine jr_iload rfl rfl ?_
                refine jr_iret rfl rfl (Nat.zero_le _) (Nat.zero_le _) ?_
                rw [jw_asked, if_neg (show ¬ c.toInt = 100 by omega), if_neg (show ¬ c.toInt = 102 by omega), if_neg (show ¬ c.toInt = 103 by omega), if_neg (show ¬ c.toInt = 104 by omega), if_neg (show ¬ c.toInt = 109 by omega), if_neg (show ¬ c.toInt = 111 by omega), if_neg (show ¬ c.toInt = 121 by omega)] at hQ; first | exact hQ | exact jq_pos hQ (by assumption) | exact jq_neg hQ (by assumption) | exact jq_pos (jq_pos hQ (by assumption)) (by assumption) | exact jq_neg (jq_pos hQ (by assumption)) (by assumption) | exact jq_pos (jq_neg hQ (by assumption)) (by assumption) | exact jq_neg (jq_neg hQ (by assumption)) (by assumption)
              · skip
                refine ⟨fun c1 => ?_, fun n1_107 => ?_⟩
                · refine jr_iload rfl rfl ?_
                  refine jr_iret rfl rfl (Nat.zero_le _) (Nat.zero_le _) ?_
                  rw [jw_asked, if_neg (show ¬ c.toInt = 100 by omega), if_neg (show ¬ c.toInt = 102 by omega), if_neg (show ¬ c.toInt = 103 by omega), if_neg (show ¬ c.toInt = 104 by omega), if_neg (show ¬ c.toInt = 109 by omega), if_neg (show ¬ c.toInt = 111 by omega), if_neg (show ¬ c.toInt = 121 by omega)] at hQ; first | exact hQ | exact jq_pos hQ (by assumption) | exact jq_neg hQ (by assumption) | exact jq_pos (jq_pos hQ (by assumption)) (by assumption) | exact jq_neg (jq_pos hQ (by assumption)) (by assumption) | exact jq_pos (jq_neg hQ (by assumption)) (by assumption) | exact jq_neg (jq_neg hQ (by assumption)) (by assumption)
                · skip
                  refine ⟨fun c1 => ?_, fun n1_108 => ?_⟩
                  · refine jr_iload rfl rfl ?_
                    refine jr_iret rfl rfl (Nat.zero_le _) (Nat.zero_le _) ?_
                    rw [jw_asked, if_neg (show ¬ c.toInt = 100 by omega), if_neg (show ¬ c.toInt = 102 by omega), if_neg (show ¬ c.toInt = 103 by omega), if_neg (show ¬ c.toInt = 104 by omega), if_neg (show ¬ c.toInt = 109 by omega), if_neg (show ¬ c.toInt = 111 by omega), if_neg (show ¬ c.toInt = 121 by omega)] at hQ; first | exact hQ | exact jq_pos hQ (by assumption) | exact jq_neg hQ (by assumption) | exact jq_pos (jq_pos hQ (by assumption)) (by assumption) | exact jq_neg (jq_pos hQ (by assumption)) (by assumption) | exact jq_pos (jq_neg hQ (by assumption)) (by assumption) | exact jq_neg (jq_neg hQ (by assumption)) (by assumption)
                  · skip
                    refine ⟨fun c1 => ?_, fun n1_109 => ?_⟩
                    · refine jr_aload rfl rfl ?_
                      refine jr_cv0 (mc' := 0) (ms' := 0) rfl jm_MD_month_n jm_MD_month_f rfl rfl rfl rfl rfl rfl rfl (Nat.zero_le _) (Nat.zero_le _) ?_
                      refine ev_MD_month hb hb2 hm ?_
                      refine jr_iret rfl rfl (Nat.zero_le _) (Nat.zero_le _) ?_
                      rw [jw_asked, if_neg (show ¬ c.toInt = 100 by omega), if_neg (show ¬ c.toInt = 102 by omega), if_neg (show ¬ c.toInt = 103 by omega), if_neg (show ¬ c.toInt = 104 by omega), if_pos c1] at hQ; first | exact hQ | exact jq_pos hQ (by assumption) | exact jq_neg hQ (by assumption) | exact jq_pos (jq_pos hQ (by assumption)) (by assumption) | exact jq_neg (jq_pos hQ (by assumption)) (by assumption) | exact jq_pos (jq_neg hQ (by assumption)) (by assumption) | exact jq_neg (jq_neg hQ (by assumption)) (by assumption)
                    · skip
                      refine ⟨fun c1 => ?_, fun n1_110 => ?_⟩
                      · refine jr_iload rfl rfl ?_
                        refine jr_iret rfl rfl (Nat.zero_le _) (Nat.zero_le _) ?_
                        rw [jw_asked, if_neg (show ¬ c.toInt = 100 by omega), if_neg (show ¬ c.toInt = 102 by omega), if_neg (show ¬ c.toInt = 103 by omega), if_neg (show ¬ c.toInt = 104 by omega), if_neg (show ¬ c.toInt = 109 by omega), if_neg (show ¬ c.toInt = 111 by omega), if_neg (show ¬ c.toInt = 121 by omega)] at hQ; first | exact hQ | exact jq_pos hQ (by assumption) | exact jq_neg hQ (by assumption) | exact jq_pos (jq_pos hQ (by assumption)) (by assumption) | exact jq_neg (jq_pos hQ (by assumption)) (by assumption) | exact jq_pos (jq_neg hQ (by assumption)) (by assumption) | exact jq_neg (jq_neg hQ (by assumption)) (by assumption)
                      · skip
                        refine ⟨fun c1 => ?_, fun n1_111 => ?_⟩
                        · refine jr_aload rfl rfl ?_
                          refine jr_getI rfl rfl ?_
                          refine jr_iret rfl rfl (Nat.zero_le _) (Nat.zero_le _) ?_
                          rw [jw_asked, if_neg (show ¬ c.toInt = 100 by omega), if_neg (show ¬ c.toInt = 102 by omega), if_neg (show ¬ c.toInt = 103 by omega), if_neg (show ¬ c.toInt = 104 by omega), if_neg (show ¬ c.toInt = 109 by omega), if_pos c1] at hQ; first | exact hQ | exact jq_pos hQ (by assumption) | exact jq_neg hQ (by assumption) | exact jq_pos (jq_pos hQ (by assumption)) (by assumption) | exact jq_neg (jq_pos hQ (by assumption)) (by assumption) | exact jq_pos (jq_neg hQ (by assumption)) (by assumption) | exact jq_neg (jq_neg hQ (by assumption)) (by assumption)
                        · skip
                          refine ⟨fun c1 => ?_, fun n1_112 => ?_⟩
                          · refine jr_iload rfl rfl ?_
                            refine jr_iret rfl rfl (Nat.zero_le _) (Nat.zero_le _) ?_
                            rw [jw_asked, if_neg (show ¬ c.toInt = 100 by omega), if_neg (show ¬ c.toInt = 102 by omega), if_neg (show ¬ c.toInt = 103 by omega), if_neg (show ¬ c.toInt = 104 by omega), if_neg (show ¬ c.toInt = 109 by omega), if_neg (show ¬ c.toInt = 111 by omega), if_neg (show ¬ c.toInt = 121 by omega)] at hQ; first | exact hQ | exact jq_pos hQ (by assumption) | exact jq_neg hQ (by assumption) | exact jq_pos (jq_pos hQ (by assumption)) (by assumption) | exact jq_neg (jq_pos hQ (by assumption)) (by assumption) | exact jq_pos (jq_neg hQ (by assumption)) (by assumption) | exact jq_neg (jq_neg hQ (by assumption)) (by assumption)
                          · skip
                            refine ⟨fun c1 => ?_, fun n1_113 => ?_⟩
                            · refine jr_iload rfl rfl ?_
                              refine jr_iret rfl rfl (Nat.zero_le _) (Nat.zero_le _) ?_
                              rw [jw_asked, if_neg (show ¬ c.toInt = 100 by omega), if_neg (show ¬ c.toInt = 102 by omega), if_neg (show ¬ c.toInt = 103 by omega), if_neg (show ¬ c.toInt = 104 by omega), if_neg (show ¬ c.toInt = 109 by omega), if_neg (show ¬ c.toInt = 111 by omega), if_neg (show ¬ c.toInt = 121 by omega)] at hQ; first | exact hQ | exact jq_pos hQ (by assumption) | exact jq_neg hQ (by assumption) | exact jq_pos (jq_pos hQ (by assumption)) (by assumption) | exact jq_neg (jq_pos hQ (by assumption)) (by assumption) | exact jq_pos (jq_neg hQ (by assumption)) (by assumption) | exact jq_neg (jq_neg hQ (by assumption)) (by assumption)
                            · skip
                              refine ⟨fun c1 => ?_, fun n1_114 => ?_⟩
                              · refine jr_iload rfl rfl ?_
                                refine jr_iret rfl rfl (Nat.zero_le _) (Nat.zero_le _) ?_
                                rw [jw_asked, if_neg (show ¬ c.toInt = 100 by omega), if_neg (show ¬ c.toInt = 102 by omega), if_neg (show ¬ c.toInt = 103 by omega), if_neg (show ¬ c.toInt = 104 by omega), if_neg (show ¬ c.toInt = 109 by omega), if_neg (show ¬ c.toInt = 111 by omega), if_neg (show ¬ c.toInt = 121 by omega)] at hQ; first | exact hQ | exact jq_pos hQ (by assumption) | exact jq_neg hQ (by assumption) | exact jq_pos (jq_pos hQ (by assumption)) (by assumption) | exact jq_neg (jq_pos hQ (by assumption)) (by assumption) | exact jq_pos (jq_neg hQ (by assumption)) (by assumption) | exact jq_neg (jq_neg hQ (by assumption)) (by assumption)
                              · skip
                                refine ⟨fun c1 => ?_, fun n1_115 => ?_⟩
                                · refine jr_iload rfl rfl ?_
                                  refine jr_iret rfl rfl (Nat.zero_le _) (Nat.zero_le _) ?_
                                  rw [jw_asked, if_neg (show ¬ c.toInt = 100 by omega), if_neg (show ¬ c.toInt = 102 by omega), if_neg (show ¬ c.toInt = 103 by omega), if_neg (show ¬ c.toInt = 104 by omega), if_neg (show ¬ c.toInt = 109 by omega), if_neg (show ¬ c.toInt = 111 by omega), if_neg (show ¬ c.toInt = 121 by omega)] at hQ; first | exact hQ | exact jq_pos hQ (by assumption) | exact jq_neg hQ (by assumption) | exact jq_pos (jq_pos hQ (by assumption)) (by assumption) | exact jq_neg (jq_pos hQ (by assumption)) (by assumption) | exact jq_pos (jq_neg hQ (by assumption)) (by assumption) | exact jq_neg (jq_neg hQ (by assumption)) (by assumption)
                                · skip
                                  refine ⟨fun c1 => ?_, fun n1_116 => ?_⟩
                                  · refine jr_iload rfl rfl ?_
                                    refine jr_iret rfl rfl (Nat.zero_le _) (Nat.zero_le _) ?_
                                    rw [jw_asked, if_neg (show ¬ c.toInt = 100 by omega), if_neg (show ¬ c.toInt = 102 by omega), if_neg (show ¬ c.toInt = 103 by omega), if_neg (show ¬ c.toInt = 104 by omega), if_neg (show ¬ c.toInt = 109 by omega), if_neg (show ¬ c.toInt = 111 by omega), if_neg (show ¬ c.toInt = 121 by omega)] at hQ; first | exact hQ | exact jq_pos hQ (by assumption) | exact jq_neg hQ (by assumption) | exact jq_pos (jq_pos hQ (by assumption)) (by assumption) | exact jq_neg (jq_pos hQ (by assumption)) (by assumption) | exact jq_pos (jq_neg hQ (by assumption)) (by assumption) | exact jq_neg (jq_neg hQ (by assumption)) (by assumption)
                                  · skip
                                    refine ⟨fun c1 => ?_, fun n1_117 => ?_⟩
                                    · refine jr_iload rfl rfl ?_
                                      refine jr_iret rfl rfl (Nat.zero_le _) (Nat.zero_le _) ?_
                                      rw [jw_asked, if_neg (show ¬ c.toInt = 100 by omega), if_neg (show ¬ c.toInt = 102 by omega), if_neg (show ¬ c.toInt = 103 by omega), if_neg (show ¬ c.toInt = 104 by omega), if_neg (show ¬ c.toInt = 109 by omega), if_neg (show ¬ c.toInt = 111 by omega), if_neg (show ¬ c.toInt = 121 by omega)] at hQ; first | exact hQ | exact jq_pos hQ (by assumption) | exact jq_neg hQ (by assumption) | exact jq_pos (jq_pos hQ (by assumption)) (by assumption) | exact jq_neg (jq_pos hQ (by assumption)) (by assumption) | exact jq_pos (jq_neg hQ (by assumption)) (by assumption) | exact jq_neg (jq_neg hQ (by assumption)) (by assumption)
                                    · skip
                                      refine ⟨fun c1 => ?_, fun n1_118 => ?_⟩
                                      · refine jr_iload rfl rfl ?_
                                        refine jr_iret rfl rfl (Nat.zero_le _) (Nat.zero_le _) ?_
                                        rw [jw_asked, if_neg (show ¬ c.toInt = 100 by omega), if_neg (show ¬ c.toInt = 102 by omega), if_neg (show ¬ c.toInt = 103 by omega), if_neg (show ¬ c.toInt = 104 by omega), if_neg (show ¬ c.toInt = 109 by omega), if_neg (show ¬ c.toInt = 111 by omega), if_neg (show ¬ c.toInt = 121 by omega)] at hQ; first | exact hQ | exact jq_pos hQ (by assumption) | exact jq_neg hQ (by assumption) | exact jq_pos (jq_pos hQ (by assumption)) (by assumption) | exact jq_neg (jq_pos hQ (by assumption)) (by assumption) | exact jq_pos (jq_neg hQ (by assumption)) (by assumption) | exact jq_neg (jq_neg hQ (by assumption)) (by assumption)
                                      · skip
                                        refine ⟨fun c1 => ?_, fun n1_119 => ?_⟩
                                        · refine jr_iload rfl rfl ?_
                                          refine jr_iret rfl rfl (Nat.zero_le _) (Nat.zero_le _) ?_
                                          rw [jw_asked, if_neg (show ¬ c.toInt = 100 by omega), if_neg (show ¬ c.toInt = 102 by omega), if_neg (show ¬ c.toInt = 103 by omega), if_neg (show ¬ c.toInt = 104 by omega), if_neg (show ¬ c.toInt = 109 by omega), if_neg (show ¬ c.toInt = 111 by omega), if_neg (show ¬ c.toInt = 121 by omega)] at hQ; first | exact hQ | exact jq_pos hQ (by assumption) | exact jq_neg hQ (by assumption) | exact jq_pos (jq_pos hQ (by assumption)) (by assumption) | exact jq_neg (jq_pos hQ (by assumption)) (by assumption) | exact jq_pos (jq_neg hQ (by assumption)) (by assumption) | exact jq_neg (jq_neg hQ (by assumption)) (by assumption)
                                        · skip
                                          refine ⟨fun c1 => ?_, fun n1_120 => ?_⟩
                                          · refine jr_iload rfl rfl ?_
                                            refine jr_iret rfl rfl (Nat.zero_le _) (Nat.zero_le _) ?_
                                            rw [jw_asked, if_neg (show ¬ c.toInt = 100 by omega), if_neg (show ¬ c.toInt = 102 by omega), if_neg (show ¬ c.toInt = 103 by omega), if_neg (show ¬ c.toInt = 104 by omega), if_neg (show ¬ c.toInt = 109 by omega), if_neg (show ¬ c.toInt = 111 by omega), if_neg (show ¬ c.toInt = 121 by omega)] at hQ; first | exact hQ | exact jq_pos hQ (by assumption) | exact jq_neg hQ (by assumption) | exact jq_pos (jq_pos hQ (by assumption)) (by assumption) | exact jq_neg (jq_pos hQ (by assumption)) (by assumption) | exact jq_pos (jq_neg hQ (by assumption)) (by assumption) | exact jq_neg (jq_neg hQ (by assumption)) (by assumption)
                                          · skip
                                            refine ⟨fun c1 => ?_, fun n1_121 => ?_⟩
                                            · refine jr_aload rfl rfl ?_
                                              refine jr_getR rfl rfl rfl rfl (Or.inl rfl) ?_
                                              refine jr_ic rfl ?_
                                              refine jr_iald (len := 337) rfl rfl (jn_c 0) (by omega) ?_
                                              refine jr_aload rfl rfl ?_
                                              refine jr_getR rfl rfl rfl rfl (Or.inl rfl) ?_
                                              refine jr_aload rfl rfl ?_
                                              refine jr_getI rfl rfl ?_
                                              refine jr_iald (len := 2) rfl rfl hb (by omega) ?_
                                              refine jr_idiv rfl (by assumption) ?_
                                              refine jr_iret rfl rfl (Nat.zero_le _) (Nat.zero_le _) ?_
                                              rw [jw_asked, if_neg (show ¬ c.toInt = 100 by omega), if_neg (show ¬ c.toInt = 102 by omega), if_neg (show ¬ c.toInt = 103 by omega), if_neg (show ¬ c.toInt = 104 by omega), if_neg (show ¬ c.toInt = 109 by omega), if_neg (show ¬ c.toInt = 111 by omega), if_pos c1] at hQ; first | exact hQ | exact jq_pos hQ (by assumption) | exact jq_neg hQ (by assumption) | exact jq_pos (jq_pos hQ (by assumption)) (by assumption) | exact jq_neg (jq_pos hQ (by assumption)) (by assumption) | exact jq_pos (jq_neg hQ (by assumption)) (by assumption) | exact jq_neg (jq_neg hQ (by assumption)) (by assumption)
                                            · skip
                                              refine jr_iload rfl rfl ?_
                                              refine jr_iret rfl rfl (Nat.zero_le _) (Nat.zero_le _) ?_
                                              rw [jw_asked, if_neg (show ¬ c.toInt = 100 by omega), if_neg (show ¬ c.toInt = 102 by omega), if_neg (show ¬ c.toInt = 103 by omega), if_neg (show ¬ c.toInt = 104 by omega), if_neg (show ¬ c.toInt = 109 by omega), if_neg (show ¬ c.toInt = 111 by omega), if_neg (show ¬ c.toInt = 121 by omega)] at hQ; first | exact hQ | exact jq_pos hQ (by assumption) | exact jq_neg hQ (by assumption) | exact jq_pos (jq_pos hQ (by assumption)) (by assumption) | exact jq_neg (jq_pos hQ (by assumption)) (by assumption) | exact jq_pos (jq_neg hQ (by assumption)) (by assumption) | exact jq_neg (jq_neg hQ (by assumption)) (by assumption)

