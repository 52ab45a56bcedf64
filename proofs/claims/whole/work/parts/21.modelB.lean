set_option maxHeartbeats 4000000 in
set_option maxRecDepth 100000 in
theorem ev_MD_two {d : Nat} {h : jx_H} {Q : Option jx_V → jx_H → Prop} {c x y : Int32} (hQ : Q (some (jv_i (jw_two c x y))) h) : jx_Ev jm_MD_two (d) 0 0 false 1 [jv_i c, jv_i x, jv_i y] h Q := by
  show jx_W (jm_MD_two, d, 0, 0, false, 1, jh_n h) Q 0 0 0 [some (jv_i c), some (jv_i x), some (jv_i y)] [] h
  refine jr_iload rfl rfl ?_
  refine jr_tsw rfl ?_
  refine ⟨fun c1 => ?_, fun n1_37 => ?_⟩
  · refine jr_iload rfl rfl ?_
    refine jr_if_ne rfl (fun c23 => ?_) (fun c23 => ?_)
    · refine jr_iload rfl rfl ?_
      refine jr_iload rfl rfl ?_
      refine jr_irem rfl (by assumption) ?_
      refine jr_iret rfl rfl (Nat.zero_le _) (Nat.zero_le _) ?_
      rw [jw_two, if_pos c1] at hQ; first | exact hQ | exact jq_pos hQ (by assumption) | exact jq_neg hQ (by assumption) | exact jq_pos (jq_pos hQ (by assumption)) (by assumption) | exact jq_neg (jq_pos hQ (by assumption)) (by assumption) | exact jq_pos (jq_neg hQ (by assumption)) (by assumption) | exact jq_neg (jq_neg hQ (by assumption)) (by assumption)
    · refine jr_ic rfl ?_
      refine jr_goto rfl ?_
      refine jr_iret rfl rfl (Nat.zero_le _) (Nat.zero_le _) ?_
      rw [jw_two, if_pos c1] at hQ; first | exact hQ | exact jq_pos hQ (by assumption) | exact jq_neg hQ (by assumption) | exact jq_pos (jq_pos hQ (by assumption)) (by assumption) | exact jq_neg (jq_pos hQ (by assumption)) (by assumption) | exact jq_pos (jq_neg hQ (by assumption)) (by assumption) | exact jq_neg (jq_neg hQ (by assumption)) (by assumption)
  · skip
    refine ⟨fun c1 => ?_, fun n1_38 => ?_⟩
    · refine jr_iload rfl rfl ?_
      refine jr_if_eq rfl (fun c52 => ?_) (fun c52 => ?_)
      · refine jr_ic rfl ?_
        refine jr_iret rfl rfl (Nat.zero_le _) (Nat.zero_le _) ?_
        rw [jw_two, if_neg (show ¬ c.toInt = 37 by omega), if_pos c1] at hQ; first | exact hQ | exact jq_pos hQ (by assumption) | exact jq_neg hQ (by assumption) | exact jq_pos (jq_pos hQ (by assumption)) (by assumption) | exact jq_neg (jq_pos hQ (by assumption)) (by assumption) | exact jq_pos (jq_neg hQ (by assumption)) (by assumption) | exact jq_neg (jq_neg hQ (by assumption)) (by assumption)
      · refine jr_iload rfl rfl ?_
        refine jr_if_eq rfl (fun c54 => ?_) (fun c54 => ?_)
        · refine jr_ic rfl ?_
          refine jr_iret rfl rfl (Nat.zero_le _) (Nat.zero_le _) ?_
          rw [jw_two, if_neg (show ¬ c.toInt = 37 by omega), if_pos c1] at hQ; first | exact hQ | exact jq_pos hQ (by assumption) | exact jq_neg hQ (by assumption) | exact jq_pos (jq_pos hQ (by assumption)) (by assumption) | exact jq_neg (jq_pos hQ (by assumption)) (by assumption) | exact jq_pos (jq_neg hQ (by assumption)) (by assumption) | exact jq_neg (jq_neg hQ (by assumption)) (by assumption)
        · refine jr_ic rfl ?_
          refine jr_goto rfl ?_
          refine jr_iret rfl rfl (Nat.zero_le _) (Nat.zero_le _) ?_
          rw [jw_two, if_neg (show ¬ c.toInt = 37 by omega), if_pos c1] at hQ; first | exact hQ | exact jq_pos hQ (by assumption) | exact jq_neg hQ (by assumption) | exact jq_pos (jq_pos hQ (by assumption)) (by assumption) | exact jq_neg (jq_pos hQ (by assumption)) (by assumption) | exact jq_pos (jq_neg hQ (by assumption)) (by assumption) | exact jq_neg (jq_neg hQ (by assumption)) (by assumption)
    · skip
      refine ⟨fun c1 => ?_, fun n1_39 => ?_⟩
      · refine jr_iload rfl rfl ?_
        refine jr_if_ne rfl (fun c60 => ?_) (fun c60 => ?_)
        · refine jr_ic rfl ?_
          refine jr_goto rfl ?_
          refine jr_iret rfl rfl (Nat.zero_le _) (Nat.zero_le _) ?_
          rw [jw_two, if_neg (show ¬ c.toInt = 37 by omega), if_neg (show ¬ c.toInt = 38 by omega), if_neg (show ¬ c.toInt = 42 by omega), if_neg (show ¬ c.toInt = 43 by omega), if_neg (show ¬ c.toInt = 45 by omega), if_neg (show ¬ c.toInt = 47 by omega), if_neg (show ¬ c.toInt = 60 by omega), if_neg (show ¬ c.toInt = 61 by omega), if_neg (show ¬ c.toInt = 62 by omega)] at hQ; first | exact hQ | exact jq_pos hQ (by assumption) | exact jq_neg hQ (by assumption) | exact jq_pos (jq_pos hQ (by assumption)) (by assumption) | exact jq_neg (jq_pos hQ (by assumption)) (by assumption) | exact jq_pos (jq_neg hQ (by assumption)) (by assumption) | exact jq_neg (jq_neg hQ (by assumption)) (by assumption)
        · refine jr_iload rfl rfl ?_
          refine jr_if_eq rfl (fun c62 => ?_) (fun c62 => ?_)
          · refine jr_ic rfl ?_
            refine jr_iret rfl rfl (Nat.zero_le _) (Nat.zero_le _) ?_
            rw [jw_two, if_neg (show ¬ c.toInt = 37 by omega), if_neg (show ¬ c.toInt = 38 by omega), if_neg (show ¬ c.toInt = 42 by omega), if_neg (show ¬ c.toInt = 43 by omega), if_neg (show ¬ c.toInt = 45 by omega), if_neg (show ¬ c.toInt = 47 by omega), if_neg (show ¬ c.toInt = 60 by omega), if_neg (show ¬ c.toInt = 61 by omega), if_neg (show ¬ c.toInt = 62 by omega)] at hQ; first | exact hQ | exact jq_pos hQ (by assumption) | exact jq_neg hQ (by assumption) | exact jq_pos (jq_pos hQ (by assumption)) (by assumption) | exact jq_neg (jq_pos hQ (by assumption)) (by assumption) | exact jq_pos (jq_neg hQ (by assumption)) (by assumption) | exact jq_neg (jq_neg hQ (by assumption)) (by assumption)
          · refine jr_ic rfl ?_
            refine jr_goto rfl ?_
            refine jr_iret rfl rfl (Nat.zero_le _) (Nat.zero_le _) ?_
            rw [jw_two, if_neg (show ¬ c.toInt = 37 by omega), if_neg (show ¬ c.toInt = 38 by omega), if_neg (show ¬ c.toInt = 42 by omega), if_neg (show ¬ c.toInt = 43 by omega), if_neg (show ¬ c.toInt = 45 by omega), if_neg (show ¬ c.toInt = 47 by omega), if_neg (show ¬ c.toInt = 60 by omega), if_neg (show ¬ c.toInt = 61 by omega), if_neg (show ¬ c.toInt = 62 by omega)] at hQ; first | exact hQ | exact jq_pos hQ (by assumption) | exact jq_neg hQ (by assumption) | exact jq_pos (jq_pos hQ (by assumption)) (by assumption) | exact jq_neg (jq_pos hQ (by assumption)) (by assumption) | exact jq_pos (jq_neg hQ (by assumption)) (by assumption) | exact jq_neg (jq_neg hQ (by assumption)) (by assumption)
      · skip
        refine ⟨fun c1 => ?_, fun n1_40 => ?_⟩
        · refine jr_iload rfl rfl ?_
          refine jr_if_ne rfl (fun c60 => ?_) (fun c60 => ?_)
          · refine jr_ic rfl ?_
            refine jr_goto rfl ?_
            refine jr_iret rfl rfl (Nat.zero_le _) (Nat.zero_le _) ?_
            rw [jw_two, if_neg (show ¬ c.toInt = 37 by omega), if_neg (show ¬ c.toInt = 38 by omega), if_neg (show ¬ c.toInt = 42 by omega), if_neg (show ¬ c.toInt = 43 by omega), if_neg (show ¬ c.toInt = 45 by omega), if_neg (show ¬ c.toInt = 47 by omega), if_neg (show ¬ c.toInt = 60 by omega), if_neg (show ¬ c.toInt = 61 by omega), if_neg (show ¬ c.toInt = 62 by omega)] at hQ; first | exact hQ | exact jq_pos hQ (by assumption) | exact jq_neg hQ (by assumption) | exact jq_pos (jq_pos hQ (by assumption)) (by assumption) | exact jq_neg (jq_pos hQ (by assumption)) (by assumption) | exact jq_pos (jq_neg hQ (by assumption)) (by assumption) | exact jq_neg (jq_neg hQ (by assumption)) (by assumption)
          · refine jr_iload rfl rfl ?_
            refine jr_if_eq rfl (fun c62 => ?_) (fun c62 => ?_)
            · refine jr_ic rfl ?_
              refine jr_iret rfl rfl (Nat.zero_le _) (Nat.zero_le _) ?_
              rw [jw_two, if_neg (show ¬ c.toInt = 37 by omega), if_neg (show ¬ c.toInt = 38 by omega), if_neg (show ¬ c.toInt = 42 by omega), if_neg (show ¬ c.toInt = 43 by omega), if_neg (show ¬ c.toInt = 45 by omega), if_neg (show ¬ c.toInt = 47 by omega), if_neg (show ¬ c.toInt = 60 by omega), if_neg (show ¬ c.toInt = 61 by omega), if_neg (show ¬ c.toInt = 62 by omega)] at hQ; first | exact hQ | exact jq_pos hQ (by assumption) | exact jq_neg hQ (by assumption) | exact jq_pos (jq_pos hQ (by assumption)) (by assumption) | exact jq_neg (jq_pos hQ (by assumption)) (by assumption) | exact jq_pos (jq_neg hQ (by assumption)) (by assumption) | exact jq_neg (jq_neg hQ (by assumption)) (by assumption)
            · refine jr_ic rfl ?_
              refine jr_goto rfl ?_
              refine jr_iret rfl rfl (Nat.zero_le _) (Nat.zero_le _) ?_
              rw [jw_two, if_neg (show ¬ c.toInt = 37 by omega), if_neg (show ¬ c.toInt = 38 by omega), if_neg (show ¬ c.toInt = 42 by omega), if_neg (show ¬ c.toInt = 43 by omega), if_neg (show ¬ c.toInt = 45 by omega), if_neg (show ¬ c.toInt = 47 by omega), if_neg (show ¬ c.toInt = 60 by omega), if_neg (show ¬ c.toInt = 61 by omega), if_neg (show ¬ c.toInt = 62 by omega)] at hQ; first | exact hQ | exact jq_pos hQ (by assumption) | exact jq_neg hQ (by assumption) | exact jq_pos (jq_pos hQ (by assumption)) (by assumption) | exact jq_neg (jq_pos hQ (by assumption)) (by assumption) | exact jq_pos (jq_neg hQ (by assumption)) (by assumption) | exact jq_neg (jq_neg hQ (by assumption)) (by assumption)
        · skip
          refine ⟨fun c1 => ?_, fun n1_41 => ?_⟩
          · refine jr_iload rfl rfl ?_
            refine jr_if_ne rfl (fun c60 => ?_) (fun c60 => ?_)
            · refine jr_ic rfl ?_
              refine jr_goto rfl ?_
              refine jr_iret rfl rfl (Nat.zero_le _) (Nat.zero_le _) ?_
              rw [jw_two, if_neg (show ¬ c.toInt = 37 by omega), if_neg (show ¬ c.toInt = 38 by omega), if_neg (show ¬ c.toInt = 42 by omega), if_neg (show ¬ c.toInt = 43 by omega), if_neg (show ¬ c.toInt = 45 by omega), if_neg (show ¬ c.toInt = 47 by omega), if_neg (show ¬ c.toInt = 60 by omega), if_neg (show ¬ c.toInt = 61 by omega), if_neg (show ¬ c.toInt = 62 by omega)] at hQ; first | exact hQ | exact jq_pos hQ (by assumption) | exact jq_neg hQ (by assumption) | exact jq_pos (jq_pos hQ (by assumption)) (by assumption) | exact jq_neg (jq_pos hQ (by assumption)) (by assumption) | exact jq_pos (jq_neg hQ (by assumption)) (by assumption) | exact jq_neg (jq_neg hQ (by assumption)) (by assumption)
            · refine jr_iload rfl rfl ?_
              refine jr_if_eq rfl (fun c62 => ?_) (fun c62 => ?_)
              · refine jr_ic rfl ?_
                refine jr_iret rfl rfl (Nat.zero_le _) (Nat.zero_le _) ?_
                rw [jw_two, if_neg (show ¬ c.toInt = 37 by omega), if_neg (show ¬ c.toInt = 38 by omega), if_neg (show ¬ c.toInt = 42 by omega), if_neg (show ¬ c.toInt = 43 by omega), if_neg (show ¬ c.toInt = 45 by omega), if_neg (show ¬ c.toInt = 47 by omega), if_neg (show ¬ c.toInt = 60 by omega), if_neg (show ¬ c.toInt = 61 by omega), if_neg (show ¬ c.toInt = 62 by omega)] at hQ; first | exact hQ | exact jq_pos hQ (by assumption) | exact jq_neg hQ (by assumption) | exact jq_pos (jq_pos hQ (by assumption)) (by assumption) | exact jq_neg (jq_pos hQ (by assumption)) (by assumption) | exact jq_pos (jq_neg hQ (by assumption)) (by assumption) | exact jq_neg (jq_neg hQ (by assumption)) (by assumption)
              · refine jr_ic rfl ?_
                refine jr_goto rfl ?_
                refine jr_iret rfl rfl (Nat.zero_le _) (Nat.zero_le _) ?_
                rw [jw_two, if_neg (show ¬ c.toInt = 37 by omega), if_neg (show ¬ c.toInt = 38 by omega), if_neg (show ¬ c.toInt = 42 by omega), if_neg (show ¬ c.toInt = 43 by omega), if_neg (show ¬ c.toInt = 45 by omega), if_neg (show ¬ c.toInt = 47 by omega), if_neg (show ¬ c.toInt = 60 by omega), if_neg (show ¬ c.toInt = 61 by omega), if_neg (show ¬ c.toInt = 62 by omega)] at hQ; first | exact hQ | exact jq_pos hQ (by assumption) | exact jq_neg hQ (by assumption) | exact jq_pos (jq_pos hQ (by assumption)) (by assumption) | exact jq_neg (jq_pos hQ (by assumption)) (by assumption) | exact jq_pos (jq_neg hQ (by assumption)) (by assumption) | exact jq_neg (jq_neg hQ (by assumption)) (by assumption)
          · skip
            refine ⟨fun c1 => ?_, fun n1_42 => ?_⟩
            · refine jr_iload rfl rfl ?_
              refine jr_iload rfl rfl ?_
              refine jr_imul rfl ?_
              refine jr_iret rfl rfl (Nat.zero_le _) (Nat.zero_le _) ?_
              rw [jw_two, if_neg (show ¬ c.toInt = 37 by omega), if_neg (show ¬ c.toInt = 38 by omega), if_pos c1] at hQ; first | exact hQ | exact jq_pos hQ (by assumption) | exact jq_neg hQ (by assumption) | exact jq_pos (jq_pos hQ (by assumption)) (by assumption) | exact jq_neg (jq_pos hQ (by assumption)) (by assumption) | exact jq_pos (jq_neg hQ (by assumption)) (by assumption) | exact jq_neg (jq_neg hQ (by assumption)) (by assumption)
            · skip
              refine ⟨fun c1 => ?_, fun n1_43 => ?_⟩
              · refine jr_iload rfl rfl ?_
                refine jr_iload rfl rfl ?_
                refine jr_iadd rfl ?_
                refine jr_iret rfl rfl (Nat.zero_le _) (Nat.zero_le _) ?_
                rw [jw_two, if_neg (show ¬ c.toInt = 37 by omega), if_neg (show ¬ c.toInt = 38 by omega), if_neg (show ¬ c.toInt = 42 by omega), if_pos c1] at hQ; first | exact hQ | exact jq_pos hQ (by assumption) | exact jq_neg hQ (by assumption) | exact jq_pos (jq_pos hQ (by assumption)) (by assumption) | exact jq_neg (jq_pos hQ (by assumption)) (by assumption) | exact jq_pos (jq_neg hQ (by assumption)) (by assumption) | exact jq_neg (jq_neg hQ (by assumption)) (by assumption)
              · skip
                refine ⟨fun c1 => ?_, fun n1_44 => ?_⟩
                · refine jr_iload rfl rfl ?_
                  refine jr_if_ne rfl (fun c60 => ?_) (fun c60 => ?_)
                  · refine jr_ic rfl ?_
                    refine jr_goto rfl ?_
                    refine jr_iret rfl rfl (Nat.zero_le _) (Nat.zero_le _) ?_
                    rw [jw_two, if_neg (show ¬ c.toInt = 37 by omega), if_neg (show ¬ c.toInt = 38 by omega), if_neg (show ¬ c.toInt = 42 by omega), if_neg (show ¬ c.toInt = 43 by omega), if_neg (show ¬ c.toInt = 45 by omega), if_neg (show ¬ c.toInt = 47 by omega), if_neg (show ¬ c.toInt = 60 by omega), if_neg (show ¬ c.toInt = 61 by omega), if_neg (show ¬ c.toInt = 62 by omega)] at hQ; first | exact hQ | exact jq_pos hQ (by assumption) | exact jq_neg hQ (by assumption) | exact jq_pos (jq_pos hQ (by assumption)) (by assumption) | exact jq_neg (jq_pos hQ (by assumption)) (by assumption) | exact jq_pos (jq_neg hQ (by assumption)) (by assumption) | exact jq_neg (jq_neg hQ (by assumption)) (by assumption)
                  · refine jr_iload rfl rfl ?_
                    refine jr_if_eq rfl (fun c62 => ?_) (fun c62 => ?_)
                    · refine jr_ic rfl ?_
                      refine jr_iret rfl rfl (Nat.zero_le _) (Nat.zero_le _) ?_
                      rw [jw_two, if_neg (show ¬ c.toInt = 37 by omega), if_neg (show ¬ c.toInt = 38 by omega), if_neg (show ¬ c.toInt = 42 by omega), if_neg (show ¬ c.toInt = 43 by omega), if_neg (show ¬ c.toInt = 45 by omega), if_neg (show ¬ c.toInt = 47 by omega), if_neg (show ¬ c.toInt = 60 by omega), if_neg (show ¬ c.toInt = 61 by omega), if_neg (show ¬ c.toInt = 62 by omega)] at hQ; first | exact hQ | exact jq_pos hQ (by assumption) | exact jq_neg hQ (by assumption) | exact jq_pos (jq_pos hQ (by assumption)) (by assumption) | exact jq_neg (jq_pos hQ (by assumption)) (by assumption) | exact jq_pos (jq_neg hQ (by assumption)) (by assumption) | exact jq_neg (jq_neg hQ (by assumption)) (by assumption)
                    · refine jr_ic rfl ?_
                      refine jr_goto rfl ?_
                      refine jr_iret rfl rfl (Nat.zero_le _) (Nat.zero_le _) ?_
                      rw [jw_two, if_neg (show ¬ c.toInt = 37 by omega), if_neg (show ¬ c.toInt = 38 by omega), if_neg (show ¬ c.toInt = 42 by omega), if_neg (show ¬ c.toInt = 43 by omega), if_neg (show ¬ c.toInt = 45 by omega), if_neg (show ¬ c.toInt = 47 by omega), if_neg (show ¬ c.toInt = 60 by omega), if_neg (show ¬ c.toInt = 61 by omega), if_neg (show ¬ c.toInt = 62 by omega)] at hQ; first | exact hQ | exact jq_pos hQ (by assumption) | exact jq_neg hQ (by assumption) | exact jq_pos (jq_pos hQ (by assumption)) (by assumption) | exact jq_neg (jq_pos hQ (by assumption)) (by assumption) | exact jq_pos (jq_neg hQ (by assumption)) (by assumption) | exact jq_neg (jq_neg hQ (by assumption)) (by assumption)
                · skip
                  refine ⟨fun c1 => ?_, fun n1_45 => ?_⟩
                  · refine jr_iload rfl rfl ?_
                    refine jr_iload rfl rfl ?_
                    refine jr_isub rfl ?_
                    refine jr_iret rfl rfl (Nat.zero_le _) (Nat.zero_le _) ?_
                    rw [jw_two, if_neg (show ¬ c.toInt = 37 by omega), if_neg (show ¬ c.toInt = 38 by omega), if_neg (show ¬ c.toInt = 42 by omega), if_neg (show ¬ c.toInt = 43 by omega), if_pos c1] at hQ; first | exact hQ | exact jq_pos hQ (by assumption) | exact jq_neg hQ (by assumption) | exact jq_pos (jq_pos hQ (by assumption)) (by assumption) | exact jq_neg (jq_pos hQ (by assumption)) (by assumption) | exact jq_pos (jq_neg hQ (by assumption)) (by assumption) | exact jq_neg (jq_neg hQ (by assumption)) (by assumption)
                  · skip
                    refine ⟨fun c1 => ?_, fun n1_46 => ?_⟩
                    · refine jr_iload rfl rfl ?_
                      refine jr_if_ne rfl (fun c60 => ?_) (fun c60 => ?_)
                      · refine jr_ic rfl ?_
                        refine jr_goto rfl ?_
                        refine jr_iret rfl rfl (Nat.zero_le _) (Nat.zero_le _) ?_
                        rw [jw_two, if_neg (show ¬ c.toInt = 37 by omega), if_neg (show ¬ c.toInt = 38 by omega), if_neg (show ¬ c.toInt = 42 by omega), if_neg (show ¬ c.toInt = 43 by omega), if_neg (show ¬ c.toInt = 45 by omega), if_neg (show ¬ c.toInt = 47 by omega), if_neg (show ¬ c.toInt = 60 by omega), if_neg (show ¬ c.toInt = 61 by omega), if_neg (show ¬ c.toInt = 62 by omega)] at hQ; first | exact hQ | exact jq_pos hQ (by assumption) | exact jq_neg hQ (by assumption) | exact jq_pos (jq_pos hQ (by assumption)) (by assumption) | exact jq_neg (jq_pos hQ (by assumption)) (by assumption) | exact jq_pos (jq_neg hQ (by assumption)) (by assumption) | exact jq_neg (jq_neg hQ (by assumption)) (by assumption)
                      · refine jr_iload rfl rfl ?_
                        refine jr_if_eq rfl (fun c62 => ?_) (fun c62 => ?_)
                        · refine jr_ic rfl ?_
                          refine jr_iret rfl rfl (Nat.zero_le _) (Nat.zero_le _) ?_
                          rw [jw_two, if_neg (show ¬ c.toInt = 37 by omega), if_neg (show ¬ c.toInt = 38 by omega), if_neg (show ¬ c.toInt = 42 by omega), if_neg (show ¬ c.toInt = 43 by omega), if_neg (show ¬ c.toInt = 45 by omega), if_neg (show ¬ c.toInt = 47 by omega), if_neg (show ¬ c.toInt = 60 by omega), if_neg (show ¬ c.toInt = 61 by omega), if_neg (show ¬ c.toInt = 62 by omega)] at hQ; first | exact hQ | exact jq_pos hQ (by assumption) | exact jq_neg hQ (by assumption) | exact jq_pos (jq_pos hQ (by assumption)) (by assumption) | exact jq_neg (jq_pos hQ (by assumption)) (by assumption) | exact jq_pos (jq_neg hQ (by assumption)) (by assumption) | exact jq_neg (jq_neg hQ (by assumption)) (by assumption)
                        · refine jr_ic rfl ?_
                          refine jr_goto rfl ?_
                          refine jr_iret rfl rfl (Nat.zero_le _) (Nat.zero_le _) ?_
                          rw [jw_two, if_neg (show ¬ c.toInt = 37 by omega), if_neg (show ¬ c.toInt = 38 by omega), if_neg (show ¬ c.toInt = 42 by omega), if_neg (show ¬ c.toInt = 43 by omega), if_neg (show ¬ c.toInt = 45 by omega), if_neg (show ¬ c.toInt = 47 by omega), if_neg (show ¬ c.toInt = 60 by omega), if_neg (show ¬ c.toInt = 61 by omega), if_neg (show ¬ c.toInt = 62 by omega)] at hQ; first | exact hQ | exact jq_pos hQ (by assumption) | exact jq_neg hQ (by assumption) | exact jq_pos (jq_pos hQ (by assumption)) (by assumption) | exact jq_neg (jq_pos hQ (by assumption)) (by assumption) | exact jq_pos (jq_neg hQ (by assumption)) (by assumption) | exact jq_neg (jq_neg hQ (by assumption)) (by assumption)
                    · skip
                      refine ⟨fun c1 => ?_, fun n1_47 => ?_⟩
                      · refine jr_iload rfl rfl ?_
                        refine jr_if_ne rfl (fun c15 => ?_) (fun c15 => ?_)
                        · refine jr_iload rfl rfl ?_
                          refine jr_iload rfl rfl ?_
                          refine jr_idiv rfl (by assumption) ?_
                          refine jr_iret rfl rfl (Nat.zero_le _) (Nat.zero_le _) ?_
                          rw [jw_two, if_neg (show ¬ c.toInt = 37 by omega), if_neg (show ¬ c.toInt = 38 by omega), if_neg (show ¬ c.toInt = 42 by omega), if_neg (show ¬ c.toInt = 43 by omega), if_neg (show ¬ c.toInt = 45 by omega), if_pos c1] at hQ; first | exact hQ | exact jq_pos hQ (by assumption) | exact jq_neg hQ (by assumption) | exact jq_pos (jq_pos hQ (by assumption)) (by assumption) | exact jq_neg (jq_pos hQ (by assumption)) (by assumption) | exact jq_pos (jq_neg hQ (by assumption)) (by assumption) | exact jq_neg (jq_neg hQ (by assumption)) (by assumption)
                        · refine jr_ic rfl ?_
                          refine jr_goto rfl ?_
                          refine jr_iret rfl rfl (Nat.zero_le _) (Nat.zero_le _) ?_
                          rw [jw_two, if_neg (show ¬ c.toInt = 37 by omega), if_neg (show ¬ c.toInt = 38 by omega), if_neg (show ¬ c.toInt = 42 by omega), if_neg (show ¬ c.toInt = 43 by omega), if_neg (show ¬ c.toInt = 45 by omega), if_pos c1] at hQ; first | exact hQ | exact jq_pos hQ (by assumption) | exact jq_neg hQ (by assumption) | exact jq_pos (jq_pos hQ (by assumption)) (by assumption) | exact jq_neg (jq_pos hQ (by assumption)) (by assumption) | exact jq_pos (jq_neg hQ (by assumption)) (by assumption) | exact jq_neg (jq_neg hQ (by assumption)) (by assumption)
                      · skip
                        refine ⟨fun c1 => ?_, fun n1_48 => ?_⟩
                        · refine jr_iload rfl rfl ?_
                          refine jr_if_ne rfl (fun c60 => ?_) (fun c60 => ?_)
                          · refine jr_ic rfl ?_
                            refine jr_goto rfl ?_
                            refine jr_iret rfl rfl (Nat.zero_le _) (Nat.zero_le _) ?_
                            rw [jw_two, if_neg (show ¬ c.toInt = 37 by omega), if_neg (show ¬ c.toInt = 38 by omega), if_neg (show ¬ c.toInt = 42 by omega), if_neg (show ¬ c.toInt = 43 by omega), if_neg (show ¬ c.toInt = 45 by omega), if_neg (show ¬ c.toInt = 47 by omega), if_neg (show ¬ c.toInt = 60 by omega), if_neg (show ¬ c.toInt = 61 by omega), if_neg (show ¬ c.toInt = 62 by omega)] at hQ; first | exact hQ | exact jq_pos hQ (by assumption) | exact jq_neg hQ (by assumption) | exact jq_pos (jq_pos hQ (by assumption)) (by assumption) | exact jq_neg (jq_pos hQ (by assumption)) (by assumption) | exact jq_pos (jq_neg hQ (by assumption)) (by assumption) | exact jq_neg (jq_neg hQ (by assumption)) (by assumption)
                          · refine jr_iload rfl rfl ?_
                            refine jr_if_eq rfl (fun c62 => ?_) (fun c62 => ?_)
                            · refine jr_ic rfl ?_
                              refine jr_iret rfl rfl (Nat.zero_le _) (Nat.zero_le _) ?_
                              rw [jw_two, if_neg (show ¬ c.toInt = 37 by omega), if_neg (show ¬ c.toInt = 38 by omega), if_neg (show ¬ c.toInt = 42 by omega), if_neg (show ¬ c.toInt = 43 by omega), if_neg (show ¬ c.toInt = 45 by omega), if_neg (show ¬ c.toInt = 47 by omega), if_neg (show ¬ c.toInt = 60 by omega), if_neg (show ¬ c.toInt = 61 by omega), if_neg (show ¬ c.toInt = 62 by omega)] at hQ; first | exact hQ | exact jq_pos hQ (by assumption) | exact jq_neg hQ (by assumption) | exact jq_pos (jq_pos hQ (by assumption)) (by assumption) | exact jq_neg (jq_pos hQ (by assumption)) (by assumption) | exact jq_pos (jq_neg hQ (by assumption)) (by assumption) | exact jq_neg (jq_neg hQ (by assumption)) (by assumption)
                            · refine jr_ic rfl ?_
                              refine jr_goto rfl ?_
                              refine jr_iret rfl rfl (Nat.zero_le _) (Nat.zero_le _) ?_
                              rw [jw_two, if_neg (show ¬ c.toInt = 37 by omega), if_neg (show ¬ c.toInt = 38 by omega), if_neg (show ¬ c.toInt = 42 by omega), if_neg (show ¬ c.toInt = 43 by omega), if_neg (show ¬ c.toInt = 45 by omega), if_neg (show ¬ c.toInt = 47 by omega), if_neg (show ¬ c.toInt = 60 by omega), if_neg (show ¬ c.toInt = 61 by omega), if_neg (show ¬ c.toInt = 62 by omega)] at hQ; first | exact hQ | exact jq_pos hQ (by assumption) | exact jq_neg hQ (by assumption) | exact jq_pos (jq_pos hQ (by assumption)) (by assumption) | exact jq_neg (jq_pos hQ (by assumption)) (by assumption) | exact jq_pos (jq_neg hQ (by assumption)) (by assumption) | exact jq_neg (jq_neg hQ (by assumption)) (by assumption)
                        · skip
                          refine ⟨fun c1 => ?_, fun n1_49 => ?_⟩
                          · refine jr_iload rfl rfl ?_
                            refine jr_if_ne rfl (fun c60 => ?_) (fun c60 => ?_)
                            · refine jr_ic rfl ?_
                              refine jr_goto rfl ?_
                              refine jr_iret rfl rfl (Nat.zero_le _) (Nat.zero_le _) ?_
                              rw [jw_two, if_neg (show ¬ c.toInt = 37 by omega), if_neg (show ¬ c.toInt = 38 by omega), if_neg (show ¬ c.toInt = 42 by omega), if_neg (show ¬ c.toInt = 43 by omega), if_neg (show ¬ c.toInt = 45 by omega), if_neg (show ¬ c.toInt = 47 by omega), if_neg (show ¬ c.toInt = 60 by omega), if_neg (show ¬ c.toInt = 61 by omega), if_neg (show ¬ c.toInt = 62 by omega)] at hQ; first | exact hQ | exact jq_pos hQ (by assumption) | exact jq_neg hQ (by assumption) | exact jq_pos (jq_pos hQ (by assumption)) (by assumption) | exact jq_neg (jq_pos hQ (by assumption)) (by assumption) | exact jq_pos (jq_neg hQ (by assumption)) (by assumption) | exact jq_neg (jq_neg hQ (by assumption)) (by assumption)
                            · refine jr_iload rfl rfl ?_
                              refine jr_if_eq rfl (fun c62 => ?_) (fun c62 => ?_)
                              · refine jr_ic rfl ?_
                                refine jr_iret rfl rfl (Nat.zero_le _) (Nat.zero_le _) ?_
                                rw [jw_two, if_neg (show ¬ c.toInt = 37 by omega), if_neg (show ¬ c.toInt = 38 by omega), if_neg (show ¬ c.toInt = 42 by omega), if_neg (show ¬ c.toInt = 43 by omega), if_neg (show ¬ c.toInt = 45 by omega), if_neg (show ¬ c.toInt = 47 by omega), if_neg (show ¬ c.toInt = 60 by omega), if_neg (show ¬ c.toInt = 61 by omega), if_neg (show ¬ c.toInt = 62 by omega)] at hQ; first | exact hQ | exact jq_pos hQ (by assumption) | exact jq_neg hQ (by assumption) | exact jq_pos (jq_pos hQ (by assumption)) (by assumption) | exact jq_neg (jq_pos hQ (by assumption)) (by assumption) | exact jq_pos (jq_neg hQ (by assumption)) (by assumption) | exact jq_neg (jq_neg hQ (by assumption)) (by assumption)
                              · refine jr_ic rfl ?_
                                refine jr_goto rfl ?_
                                refine jr_iret rfl rfl (Nat.zero_le _) (Nat.zero_le _) ?_
                                rw [jw_two, if_neg (show ¬ c.toInt = 37 by omega), if_neg (show ¬ c.toInt = 38 by omega), if_neg (show ¬ c.toInt = 42 by omega), if_neg (show ¬ c.toInt = 43 by omega), if_neg (show ¬ c.toInt = 45 by omega), if_neg (show ¬ c.toInt = 47 by omega), if_neg (show ¬ c.toInt = 60 by omega), if_neg (show ¬ c.toInt = 61 by omega), if_neg (show ¬ c.toInt = 62 by omega)] at hQ; first | exact hQ | exact jq_pos hQ (by assumption) | exact jq_neg hQ (by assumption) | exact jq_pos (jq_pos hQ (by assumption)) (by assumption) | exact jq_neg (jq_pos hQ (by assumption)) (by assumption) | exact jq_pos (jq_neg hQ (by assumption)) (by assumption) | exact jq_neg (jq_neg hQ (by assumption)) (by assumption)
                          · skip
                            refine ⟨fun c1 => ?_, fun n1_50 => ?_⟩
                            · refine jr_iload rfl rfl ?_
                              refine jr_if_ne rfl (fun c60 => ?_) (fun c60 => ?_)
                              · refine jr_ic rfl ?_
                                refine jr_goto rfl ?_
                                refine jr_iret rfl rfl (Nat.zero_le _) (Nat.zero_le _) ?_
                                rw [jw_two, if_neg (show ¬ c.toInt = 37 by omega), if_neg (show ¬ c.toInt = 38 by omega), if_neg (show ¬ c.toInt = 42 by omega), if_neg (show ¬ c.toInt = 43 by omega), if_neg (show ¬ c.toInt = 45 by omega), if_neg (show ¬ c.toInt = 47 by omega), if_neg (show ¬ c.toInt = 60 by omega), if_neg (show ¬ c.toInt = 61 by omega), if_neg (show ¬ c.toInt = 62 by omega)] at hQ; first | exact hQ | exact jq_pos hQ (by assumption) | exact jq_neg hQ (by assumption) | exact jq_pos (jq_pos hQ (by assumption)) (by assumption) | exact jq_neg (jq_pos hQ (by assumption)) (by assumption) | exact jq_pos (jq_neg hQ (by assumption)) (by assumption) | exact jq_neg (jq_neg hQ (by assumption)) (by assumption)
                              · refine jr_iload rfl rfl ?_
                                refine jr_if_eq rfl (fun c62 => ?_) (fun c62 => ?_)
                                · refine jr_ic rfl ?_
                                  refine jr_iret rfl rfl (Nat.zero_le _) (Nat.zero_le _) ?_
                                  rw [jw_two, if_neg (show ¬ c.toInt = 37 by omega), if_neg (show ¬ c.toInt = 38 by omega), if_neg (show ¬ c.toInt = 42 by omega), if_neg (show ¬ c.toInt = 43 by omega), if_neg (show ¬ c.toInt = 45 by omega), if_neg (show ¬ c.toInt = 47 by omega), if_neg (show ¬ c.toInt = 60 by omega), if_neg (show ¬ c.toInt = 61 by omega), if_neg (show ¬ c.toInt = 62 by omega)] at hQ; first | exact hQ | exact jq_pos hQ (by assumption) | exact jq_neg hQ (by assumption) | exact jq_pos (jq_pos hQ (by assumption)) (by assumption) | exact jq_neg (jq_pos hQ (by assumption)) (by assumption) | exact jq_pos (jq_neg hQ (by assumption)) (by assumption) | exact jq_neg (jq_neg hQ (by assumption)) (by assumption)
                                · refine jr_ic rfl ?_
                                  refine jr_goto rfl ?_
                                  refine jr_iret rfl rfl (Nat.zero_le _) (Nat.zero_le _) ?_
                                  rw [jw_two, if_neg (show ¬ c.toInt = 37 by omega), if_neg (show ¬ c.toInt = 38 by omega), if_neg (show ¬ c.toInt = 42 by omega), if_neg (show ¬ c.toInt = 43 by omega), if_neg (show ¬ c.toInt = 45 by omega), if_neg (show ¬ c.toInt = 47 by omega), if_neg (show ¬ c.toInt = 60 by omega), if_neg (show ¬ c.toInt = 61 by omega), if_neg (show ¬ c.toInt = 62 by omega)] at hQ; first | exact hQ | exact jq_pos hQ (by assumption) | exact jq_neg hQ (by assumption) | exact jq_pos (jq_pos hQ (by assumption)) (by assumption) | exact jq_neg (jq_pos hQ (by assumption)) (by assumption) | exact jq_pos (jq_neg hQ (by assumption)) (by assumption) | exact jq_neg (jq_neg hQ (by assumption)) (by assumption)
                            · skip
                              refine ⟨fun c1 => ?_, fun n1_51 => ?_⟩
                              · refine jr_iload rfl rfl ?_
                                refine jr_if_ne rfl (fun c60 => ?_) (fun c60 => ?_)
                                · refine jr_ic rfl ?_
                                  refine jr_goto rfl ?_
                                  refine jr_iret rfl rfl (Nat.zero_le _) (Nat.zero_le _) ?_
                                  rw [jw_two, if_neg (show ¬ c.toInt = 37 by omega), if_neg (show ¬ c.toInt = 38 by omega), if_neg (show ¬ c.toInt = 42 by omega), if_neg (show ¬ c.toInt = 43 by omega), if_neg (show ¬ c.toInt = 45 by omega), if_neg (show ¬ c.toInt = 47 by omega), if_neg (show ¬ c.toInt = 60 by omega), if_neg (show ¬ c.toInt = 61 by omega), if_neg (show ¬ c.toInt = 62 by omega)] at hQ; first | exact hQ | exact jq_pos hQ (by assumption) | exact jq_neg hQ (by assumption) | exact jq_pos (jq_pos hQ (by assumption)) (by assumption) | exact jq_neg (jq_pos hQ (by assumption)) (by assumption) | exact jq_pos (jq_neg hQ (by assumption)) (by assumption) | exact jq_neg (jq_neg hQ (by assumption)) (by assumption)
                                · refine jr_iload rfl rfl ?_
                                  refine jr_if_eq rfl (fun c62 => ?_) (fun c62 => ?_)
                                  · refine jr_ic rfl ?_
                                    refine jr_iret rfl rfl (Nat.zero_le _) (Nat.zero_le _) ?_
                                    rw [jw_two, if_neg (show ¬ c.toInt = 37 by omega), if_neg (show ¬ c.toInt = 38 by omega), if_neg (show ¬ c.toInt = 42 by omega), if_neg (show ¬ c.toInt = 43 by omega), if_neg (show ¬ c.toInt = 45 by omega), if_neg (show ¬ c.toInt = 47 by omega), if_neg (show ¬ c.toInt = 60 by omega), if_neg (show ¬ c.toInt = 61 by omega), if_neg (show ¬ c.toInt = 62 by omega)] at hQ; first | exact hQ | exact jq_pos hQ (by assumption) | exact jq_neg hQ (by assumption) | exact jq_pos (jq_pos hQ (by assumption)) (by assumption) | exact jq_neg (jq_pos hQ (by assumption)) (by assumption) | exact jq_pos (jq_neg hQ (by assumption)) (by assumption) | exact jq_neg (jq_neg hQ (by assumption)) (by assumption)
                                  · refine jr_ic rfl ?_
                                    refine jr_goto rfl ?_
                                    refine jr_iret rfl rfl (Nat.zero_le _) (Nat.zero_le _) ?_
                                    rw [jw_two, if_neg (show ¬ c.toInt = 37 by omega), if_neg (show ¬ c.toInt = 38 by omega), if_neg (show ¬ c.toInt = 42 by omega), if_neg (show ¬ c.toInt = 43 by omega), if_neg (show ¬ c.toInt = 45 by omega), if_neg (show ¬ c.toInt = 47 by omega), if_neg (show ¬ c.toInt = 60 by omega), if_neg (show ¬ c.toInt = 61 by omega), if_neg (show ¬ c.toInt = 62 by omega)] at hQ; first | exact hQ | exact jq_pos hQ (by assumption) | exact jq_neg hQ (by assumption) | exact jq_pos (jq_pos hQ (by assumption)) (by assumption) | exact jq_neg (jq_pos hQ (by assumption)) (by assumption) | exact jq_pos (jq_neg hQ (by assumption)) (by assumption) | exact jq_neg (jq_neg hQ (by assumption)) (by assumption)
                              · skip
                                refine ⟨fun c1 => ?_, fun n1_52 => ?_⟩
                                · refine jr_iload rfl rfl ?_
                                  refine jr_if_ne rfl (fun c60 => ?_) (fun c60 => ?_)
                                  · refine jr_ic rfl ?_
                                    refine jr_goto rfl ?_
                                    refine jr_iret rfl rfl (Nat.zero_le _) (Nat.zero_le _) ?_
                                    rw [jw_two, if_neg (show ¬ c.toInt = 37 by omega), if_neg (show ¬ c.toInt = 38 by omega), if_neg (show ¬ c.toInt = 42 by omega), if_neg (show ¬ c.toInt = 43 by omega), if_neg (show ¬ c.toInt = 45 by omega), if_neg (show ¬ c.toInt = 47 by omega), if_neg (show ¬ c.toInt = 60 by omega), if_neg (show ¬ c.toInt = 61 by omega), if_neg (show ¬ c.toInt = 62 by omega)] at hQ; first | exact hQ | exact jq_pos hQ (by assumption) | exact jq_neg hQ (by assumption) | exact jq_pos (jq_pos hQ (by assumption)) (by assumption) | exact jq_neg (jq_pos hQ (by assumption)) (by assumption) | exact jq_pos (jq_neg hQ (by assumption)) (by assumption) | exact jq_neg (jq_neg hQ (by assumption)) (by assumption)
                                  · refine jr_iload rfl rfl ?_
                                    refine jr_if_eq rfl (fun c62 => ?_) (fun c62 => ?_)
                                    · refine jr_ic rfl ?_
                                      refine jr_iret rfl rfl (Nat.zero_le _) (Nat.zero_le _) ?_
                                      rw [jw_two, if_neg (show ¬ c.toInt = 37 by omega), if_neg (show ¬ c.toInt = 38 by omega), if_neg (show ¬ c.toInt = 42 by omega), if_neg (show ¬ c.toInt = 43 by omega), if_neg (show ¬ c.toInt = 45 by omega), if_neg (show ¬ c.toInt = 47 by omega), if_neg (show ¬ c.toInt = 60 by omega), if_neg (show ¬ c.toInt = 61 by omega), if_neg (show ¬ c.toInt = 62 by omega)] at hQ; first | exact hQ | exact jq_pos hQ (by assumption) | exact jq_neg hQ (by assumption) | exact jq_pos (jq_pos hQ (by assumption)) (by assumption) | exact jq_neg (jq_pos hQ (by assumption)) (by assumption) | exact jq_pos (jq_neg hQ (by assumption)) (by assumption) | exact jq_neg (jq_neg hQ (by assumption)) (by assumption)
                                    · refine jr_ic rfl ?_
                                      refine jr_goto rfl ?_
                                      refine jr_iret rfl rfl (Nat.zero_le _) (Nat.zero_le _) ?_
                                      rw [jw_two, if_neg (show ¬ c.toInt = 37 by omega), if_neg (show ¬ c.toInt = 38 by omega), if_neg (show ¬ c.toInt = 42 by omega), if_neg (show ¬ c.toInt = 43 by omega), if_neg (show ¬ c.toInt = 45 by omega), if_neg (show ¬ c.toInt = 47 by omega), if_neg (show ¬ c.toInt = 60 by omega), if_neg (show ¬ c.toInt = 61 by omega), if_neg (show ¬ c.toInt = 62 by omega)] at hQ; first | exact hQ | exact jq_pos hQ (by assumption) | exact jq_neg hQ (by assumption) | exact jq_pos (jq_pos hQ (by assumption)) (by assumption) | exact jq_neg (jq_pos hQ (by assumption)) (by assumption) | exact jq_pos (jq_neg hQ (by assumption)) (by assumption) | exact jq_neg (jq_neg hQ (by assumption)) (by assumption)
                                · skip
                                  refine ⟨fun c1 => ?_, fun n1_53 => ?_⟩
                                  · refine jr_iload rfl rfl ?_
                                    refine jr_if_ne rfl (fun c60 => ?_) (fun c60 => ?_)
                                    · refine jr_ic rfl ?_
                                      refine jr_goto rfl ?_
                                      refine jr_iret rfl rfl (Nat.zero_le _) (Nat.zero_le _) ?_
                                      rw [jw_two, if_neg (show ¬ c.toInt = 37 by omega), if_neg (show ¬ c.toInt = 38 by omega), if_neg (show ¬ c.toInt = 42 by omega), if_neg (show ¬ c.toInt = 43 by omega), if_neg (show ¬ c.toInt = 45 by omega), if_neg (show ¬ c.toInt = 47 by omega), if_neg (show ¬ c.toInt = 60 by omega), if_neg (show ¬ c.toInt = 61 by omega), if_neg (show ¬ c.toInt = 62 by omega)] at hQ; first | exact hQ | exact jq_pos hQ (by assumption) | exact jq_neg hQ (by assumption) | exact jq_pos (jq_pos hQ (by assumption)) (by assumption) | exact jq_neg (jq_pos hQ (by assumption)) (by assumption) | exact jq_pos (jq_neg hQ (by assumption)) (by assumption) | exact jq_neg (jq_neg hQ (by assumption)) (by assumption)
                                    · refine jr_iload rfl rfl ?_
                                      refine jr_if_eq rfl (fun c62 => ?_) (fun c62 => ?_)
                                      · refine jr_ic rfl ?_
                                        refine jr_iret rfl rfl (Nat.zero_le _) (Nat.zero_le _) ?_
                                        rw [jw_two, if_neg (show ¬ c.toInt = 37 by omega), if_neg (show ¬ c.toInt = 38 by omega), if_neg (show ¬ c.toInt = 42 by omega), if_neg (show ¬ c.toInt = 43 by omega), if_neg (show ¬ c.toInt = 45 by omega), if_neg (show ¬ c.toInt = 47 by omega), if_neg (show ¬ c.toInt = 60 by omega), if_neg (show ¬ c.toInt = 61 by omega), if_neg (show ¬ c.toInt = 62 by omega)] at hQ; first | exact hQ | exact jq_pos hQ (by assumption) | exact jq_neg hQ (by assumption) | exact jq_pos (jq_pos hQ (by assumption)) (by assumption) | exact jq_neg (jq_pos hQ (by assumption)) (by assumption) | exact jq_pos (jq_neg hQ (by assumption)) (by assumption) | exact jq_neg (jq_neg hQ (by assumption)) (by assumption)
                                      · refine jr_ic rfl ?_
                                        refine jr_goto rfl ?_
                                        refine jr_iret rfl rfl (Nat.zero_le _) (Nat.zero_le _) ?_
                                        rw [jw_two, if_neg (show ¬ c.toInt = 37 by omega), if_neg (show ¬ c.toInt = 38 by omega), if_neg (show ¬ c.toInt = 42 by omega), if_neg (show ¬ c.toInt = 43 by omega), if_neg (show ¬ c.toInt = 45 by omega), if_neg (show ¬ c.toInt = 47 by omega), if_neg (show ¬ c.toInt = 60 by omega), if_neg (show ¬ c.toInt = 61 by omega), if_neg (show ¬ c.toInt = 62 by omega)] at hQ; first | exact hQ | exact jq_pos hQ (by assumption) | exact jq_neg hQ (by assumption) | exact jq_pos (jq_pos hQ (by assumption)) (by assumption) | exact jq_neg (jq_pos hQ (by assumption)) (by assumption) | exact jq_pos (jq_neg hQ (by assumption)) (by assumption) | exact jq_neg (jq_neg hQ (by assumption)) (by assumption)
                                  · skip
                                    refine ⟨fun c1 => ?_, fun n1_54 => ?_⟩
                                    · refine jr_iload rfl rfl ?_
                                      refine jr_if_ne rfl (fun c60 => ?_) (fun c60 => ?_)
                                      · refine jr_ic rfl ?_
                                        refine jr_goto rfl ?_
                                        refine jr_iret rfl rfl (Nat.zero_le _) (Nat.zero_le _) ?_
                                        rw [jw_two, if_neg (show ¬ c.toInt = 37 by omega), if_neg (show ¬ c.toInt = 38 by omega), if_neg (show ¬ c.toInt = 42 by omega), if_neg (show ¬ c.toInt = 43 by omega), if_neg (show ¬ c.toInt = 45 by omega), if_neg (show ¬ c.toInt = 47 by omega), if_neg (show ¬ c.toInt = 60 by omega), if_neg (show ¬ c.toInt = 61 by omega), if_neg (show ¬ c.toInt = 62 by omega)] at hQ; first | exact hQ | exact jq_pos hQ (by assumption) | exact jq_neg hQ (by assumption) | exact jq_pos (jq_pos hQ (by assumption)) (by assumption) | exact jq_neg (jq_pos hQ (by assumption)) (by assumption) | exact jq_pos (jq_neg hQ (by assumption)) (by assumption) | exact jq_neg (jq_neg hQ (by assumption)) (by assumption)
                                      · refine jr_iload rfl rfl ?_
                                        refine jr_if_eq rfl (fun c62 => ?_) (fun c62 => ?_)
                                        · refine jr_ic rfl ?_
                                          refine jr_iret rfl rfl (Nat.zero_le _) (Nat.zero_le _) ?_
                                          rw [jw_two, if_neg (show ¬ c.toInt = 37 by omega), if_neg (show ¬ c.toInt = 38 by omega), if_neg (show ¬ c.toInt = 42 by omega), if_neg (show ¬ c.toInt = 43 by omega), if_neg (show ¬ c.toInt = 45 by omega), if_neg (show ¬ c.toInt = 47 by omega), if_neg (show ¬ c.toInt = 60 by omega), if_neg (show ¬ c.toInt = 61 by omega), if_neg (show ¬ c.toInt = 62 by omega)] at hQ; first | exact hQ | exact jq_pos hQ (by assumption) | exact jq_neg hQ (by assumption) | exact jq_pos (jq_pos hQ (by assumption)) (by assumption) | exact jq_neg (jq_pos hQ (by assumption)) (by assumption) | exact jq_pos (jq_neg hQ (by assumption)) (by assumption) | exact jq_neg (jq_neg hQ (by assumption)) (by assumption)
                                        · refine jr_ic rfl ?_
                                          refine jr_goto rfl ?_
                                          refine jr_iret rfl rfl (Nat.zero_le _) (Nat.zero_le _) ?_
                                          rw [jw_two, if_neg (show ¬ c.toInt = 37 by omega), if_neg (show ¬ c.toInt = 38 by omega), if_neg (show ¬ c.toInt = 42 by omega), if_neg (show ¬ c.toInt = 43 by omega), if_neg (show ¬ c.toInt = 45 by omega), if_neg (show ¬ c.toInt = 47 by omega), if_neg (show ¬ c.toInt = 60 by omega), if_neg (show ¬ c.toInt = 61 by omega), if_neg (show ¬ c.toInt = 62 by omega)] at hQ; first | exact hQ | exact jq_pos hQ (by assumption) | exact jq_neg hQ (by assumption) | exact jq_pos (jq_pos hQ (by assumption)) (by assumption) | exact jq_neg (jq_pos hQ (by assumption)) (by assumption) | exact jq_pos (jq_neg hQ (by assumption)) (by assumption) | exact jq_neg (jq_neg hQ (by assumption)) (by assumption)
                                    · skip
                                      refine ⟨fun c1 => ?_, fun n1_55 => ?_⟩
                                      · refine jr_iload rfl rfl ?_
                                        refine jr_if_ne rfl (fun c60 => ?_) (fun c60 => ?_)
                                        · refine jr_ic rfl ?_
                                          refine jr_goto rfl ?_
                                          refine jr_iret rfl rfl (Nat.zero_le _) (Nat.zero_le _) ?_
                                          rw [jw_two, if_neg (show ¬ c.toInt = 37 by omega), if_neg (show ¬ c.toInt = 38 by omega), if_neg (show ¬ c.toInt = 42 by omega), if_neg (show ¬ c.toInt = 43 by omega), if_neg (show ¬ c.toInt = 45 by omega), if_neg (show ¬ c.toInt = 47 by omega), if_neg (show ¬ c.toInt = 60 by omega), if_neg (show ¬ c.toInt = 61 by omega), if_neg (show ¬ c.toInt = 62 by omega)] at hQ; first | exact hQ | exact jq_pos hQ (by assumption) | exact jq_neg hQ (by assumption) | exact jq_pos (jq_pos hQ (by assumption)) (by assumption) | exact jq_neg (jq_pos hQ (by assumption)) (by assumption) | exact jq_pos (jq_neg hQ (by assumption)) (by assumption) | exact jq_neg (jq_neg hQ (by assumption)) (by assumption)
                                        · refine jr_iload rfl rfl ?_
                                          refine jr_if_eq rfl (fun c62 => ?_) (fun c62 => ?_)
                                          · refine jr_ic rfl ?_
                                            refine jr_iret rfl rfl (Nat.zero_le _) (Nat.zero_le _) ?_
                                            rw [jw_two, if_neg (show ¬ c.toInt = 37 by omega), if_neg (show ¬ c.toInt = 38 by omega), if_neg (show ¬ c.toInt = 42 by omega), if_neg (show ¬ c.toInt = 43 by omega), if_neg (show ¬ c.toInt = 45 by omega), if_neg (show ¬ c.toInt = 47 by omega), if_neg (show ¬ c.toInt = 60 by omega), if_neg (show ¬ c.toInt = 61 by omega), if_neg (show ¬ c.toInt = 62 by omega)] at hQ; first | exact hQ | exact jq_pos hQ (by assumption) | exact jq_neg hQ (by assumption) | exact jq_pos (jq_pos hQ (by assumption)) (by assumption) | exact jq_neg (jq_pos hQ (by assumption)) (by assumption) | exact jq_pos (jq_neg hQ (by assumption)) (by assumption) | exact jq_neg (jq_neg hQ (by assumption)) (by assumption)
                                          · refine jr_ic rfl ?_
                                            refine jr_goto rfl ?_
                                            refine jr_iret rfl rfl (Nat.zero_le _) (Nat.zero_le _) ?_
                                            rw [jw_two, if_neg (show ¬ c.toInt = 37 by omega), if_neg (show ¬ c.toInt = 38 by omega), if_neg (show ¬ c.toInt = 42 by omega), if_neg (show ¬ c.toInt = 43 by omega), if_neg (show ¬ c.toInt = 45 by omega), if_neg (show ¬ c.toInt = 47 by omega), if_neg (show ¬ c.toInt = 60 by omega), if_neg (show ¬ c.toInt = 61 by omega), if_neg (show ¬ c.toInt = 62 by omega)] at hQ; first | exact hQ | exact jq_pos hQ (by assumption) | exact jq_neg hQ (by assumption) | exact jq_pos (jq_pos hQ (by assumption)) (by assumption) | exact jq_neg (jq_pos hQ (by assumption)) (by assumption) | exact jq_pos (jq_neg hQ (by assumption)) (by assumption) | exact jq_neg (jq_neg hQ (by assumption)) (by assumption)
                                      · skip
                                        refine ⟨fun c1 => ?_, fun n1_56 => ?_⟩
                                        · refine jr_iload rfl rfl ?_
                                          refine jr_if_ne rfl (fun c60 => ?_) (fun c60 => ?_)
                                          · refine jr_ic rfl ?_
                                            refine jr_goto rfl ?_
                                            refine jr_iret rfl rfl (Nat.zero_le _) (Nat.zero_le _) ?_
                                            rw [jw_two, if_neg (show ¬ c.toInt = 37 by omega), if_neg (show ¬ c.toInt = 38 by omega), if_neg (show ¬ c.toInt = 42 by omega), if_neg (show ¬ c.toInt = 43 by omega), if_neg (show ¬ c.toInt = 45 by omega), if_neg (show ¬ c.toInt = 47 by omega), if_neg (show ¬ c.toInt = 60 by omega), if_neg (show ¬ c.toInt = 61 by omega), if_neg (show ¬ c.toInt = 62 by omega)] at hQ; first | exact hQ | exact jq_pos hQ (by assumption) | exact jq_neg hQ (by assumption) | exact jq_pos (jq_pos hQ (by assumption)) (by assumption) | exact jq_neg (jq_pos hQ (by assumption)) (by assumption) | exact jq_pos (jq_neg hQ (by assumption)) (by assumption) | exact jq_neg (jq_neg hQ (by assumption)) (by assumption)
                                          · refine jr_iload rfl rfl ?_
                                            refine jr_if_eq rfl (fun c62 => ?_) (fun c62 => ?_)
                                            · refine jr_ic rfl ?_
                                              refine jr_iret rfl rfl (Nat.zero_le _) (Nat.zero_le _) ?_
                                              rw [jw_two, if_neg (show ¬ c.toInt = 37 by omega), if_neg (show ¬ c.toInt = 38 by omega), if_neg (show ¬ c.toInt = 42 by omega), if_neg (show ¬ c.toInt = 43 by omega), if_neg (show ¬ c.toInt = 45 by omega), if_neg (show ¬ c.toInt = 47 by omega), if_neg (show ¬ c.toInt = 60 by omega), if_neg (show ¬ c.toInt = 61 by omega), if_neg (show ¬ c.toInt = 62 by omega)] at hQ; first | exact hQ | exact jq_pos hQ (by assumption) | exact jq_neg hQ (by assumption) | exact jq_pos (jq_pos hQ (by assumption)) (by assumption) | exact jq_neg (jq_pos hQ (by assumption)) (by assumption) | exact jq_pos (jq_neg hQ (by assumption)) (by assumption) | exact jq_neg (jq_neg hQ (by assumption)) (by assumption)
                                            · refine jr_ic rfl ?_
                                              refine jr_goto rfl ?_
                                              refine jr_iret rfl rfl (Nat.zero_le _) (Nat.zero_le _) ?_
                                              rw [jw_two, if_neg (show ¬ c.toInt = 37 by omega), if_neg (show ¬ c.toInt = 38 by omega), if_neg (show ¬ c.toInt = 42 by omega), if_neg (show ¬ c.toInt = 43 by omega), if_neg (show ¬ c.toInt = 45 by omega), if_neg (show ¬ c.toInt = 47 by omega), if_neg (show ¬ c.toInt = 60 by omega), if_neg (show ¬ c.toInt = 61 by omega), if_neg (show ¬ c.toInt = 62 by omega)] at hQ; first | exact hQ | exact jq_pos hQ (by assumption) | exact jq_neg hQ (by assumption) | exact jq_pos (jq_pos hQ (by assumption)) (by assumption) | exact jq_neg (jq_pos hQ (by assumption)) (by assumption) | exact jq_pos (jq_neg hQ (by assumption)) (by assumption) | exact jq_neg (jq_neg hQ (by assumption)) (by assumption)
                                        · skip
                                          refine ⟨fun c1 => ?_, fun n1_57 => ?_⟩
                                          · refine jr_iload rfl rfl ?_
                                            refine jr_if_ne rfl (fun c60 => ?_) (fun c60 => ?_)
                                            · refine jr_ic rfl ?_
                                              refine jr_goto rfl ?_
                                              refine jr_iret rfl rfl (Nat.zero_le _) (Nat.zero_le _) ?_
                                              rw [jw_two, if_neg (show ¬ c.toInt = 37 by omega), if_neg (show ¬ c.toInt = 38 by omega), if_neg (show ¬ c.toInt = 42 by omega), if_neg (show ¬ c.toInt = 43 by omega), if_neg (show ¬ c.toInt = 45 by omega), if_neg (show ¬ c.toInt = 47 by omega), if_neg (show ¬ c.toInt = 60 by omega), if_neg (show ¬ c.toInt = 61 by omega), if_neg (show ¬ c.toInt = 62 by omega)] at hQ; first | exact hQ | exact jq_pos hQ (by assumption) | exact jq_neg hQ (by assumption) | exact jq_pos (jq_pos hQ (by assumption)) (by assumption) | exact jq_neg (jq_pos hQ (by assumption)) (by assumption) | exact jq_pos (jq_neg hQ (by assumption)) (by assumption) | exact jq_neg (jq_neg hQ (by assumption)) (by assumption)
                                            · refine jr_iload rfl rfl ?_
                                              refine jr_if_eq rfl (fun c62 => ?_) (fun c62 => ?_)
                                              · refine jr_ic rfl ?_
                                                refine jr_iret rfl rfl (Nat.zero_le _) (Nat.zero_le _) ?_
                                                rw [jw_two, if_neg (show ¬ c.toInt = 37 by omega), if_neg (show ¬ c.toInt = 38 by omega), if_neg (show ¬ c.toInt = 42 by omega), if_neg (show ¬ c.toInt = 43 by omega), if_neg (show ¬ c.toInt = 45 by omega), if_neg (show ¬ c.toInt = 47 by omega), if_neg (show ¬ c.toInt = 60 by omega), if_neg (show ¬ c.toInt = 61 by omega), if_neg (show ¬ c.toInt = 62 by omega)] at hQ; first | exact hQ | exact jq_pos hQ (by assumption) | exact jq_neg hQ (by assumption) | exact jq_pos (jq_pos hQ (by assumption)) (by assumption) | exact jq_neg (jq_pos hQ (by assumption)) (by assumption) | exact jq_pos (jq_neg hQ (by assumption)) (by assumption) | exact jq_neg (jq_neg hQ (by assumption)) (by assumption)
                                              · refine jr_ic rfl ?_
                                                refine jr_goto rfl ?_
                                                refine jr_iret rfl rfl (Nat.zero_le _) (Nat.zero_le _) ?_
                                                rw [jw_two, if_neg (show ¬ c.toInt = 37 by omega), if_neg (show ¬ c.toInt = 38 by omega), if_neg (show ¬ c.toInt = 42 by omega), if_neg (show ¬ c.toInt = 43 by omega), if_neg (show ¬ c.toInt = 45 by omega), if_neg (show ¬ c.toInt = 47 by omega), if_neg (show ¬ c.toInt = 60 by omega), if_neg (show ¬ c.toInt = 61 by omega), if_neg (show ¬ c.toInt = 62 by omega)] at hQ; first | exact hQ | exact jq_pos hQ (by assumption) | exact jq_neg hQ (by assumption) | exact jq_pos (jq_pos hQ (by assumption)) (by assumption) | exact jq_neg (jq_pos hQ (by assumption)) (by assumption) | exact jq_pos (jq_neg hQ (by assumption)) (by assumption) | exact jq_neg (jq_neg hQ (by assumption)) (by assumption)
                                          · skip
                                            refine ⟨fun c1 => ?_, fun n1_58 => ?_⟩
                                            · refine jr_iload rfl rfl ?_
                                              refine jr_if_ne rfl (fun c60 => ?_) (fun c60 => ?_)
                                              · refine jr_ic rfl ?_
                                                refine jr_goto rfl ?_
                                                refine jr_iret rfl rfl (Nat.zero_le _) (Nat.zero_le _) ?_
                                                rw [jw_two, if_neg (show ¬ c.toInt = 37 by omega), if_neg (show ¬ c.toInt = 38 by omega), if_neg (show ¬ c.toInt = 42 by omega), if_neg (show ¬ c.toInt = 43 by omega), if_neg (show ¬ c.toInt = 45 by omega), if_neg (show ¬ c.toInt = 47 by omega), if_neg (show ¬ c.toInt = 60 by omega), if_neg (show ¬ c.toInt = 61 by omega), if_neg (show ¬ c.toInt = 62 by omega)] at hQ; first | exact hQ | exact jq_pos hQ (by assumption) | exact jq_neg hQ (by assumption) | exact jq_pos (jq_pos hQ (by assumption)) (by assumption) | exact jq_neg (jq_pos hQ (by assumption)) (by assumption) | exact jq_pos (jq_neg hQ (by assumption)) (by assumption) | exact jq_neg (jq_neg hQ (by assumption)) (by assumption)
                                              · refine jr_iload rfl rfl ?_
                                                refine jr_if_eq rfl (fun c62 => ?_) (fun c62 => ?_)
                                                · refine jr_ic rfl ?_
                                                  refine jr_iret rfl rfl (Nat.zero_le _) (Nat.zero_le _) ?_
                                                  rw [jw_two, if_neg (show ¬ c.toInt = 37 by omega), if_neg (show ¬ c.toInt = 38 by omega), if_neg (show ¬ c.toInt = 42 by omega), if_neg (show ¬ c.toInt = 43 by omega), if_neg (show ¬ c.toInt = 45 by omega), if_neg (show ¬ c.toInt = 47 by omega), if_neg (show ¬ c.toInt = 60 by omega), if_neg (show ¬ c.toInt = 61 by omega), if_neg (show ¬ c.toInt = 62 by omega)] at hQ; first | exact hQ | exact jq_pos hQ (by assumption) | exact jq_neg hQ (by assumption) | exact jq_pos (jq_pos hQ (by assumption)) (by assumption) | exact jq_neg (jq_pos hQ (by assumption)) (by assumption) | exact jq_pos (jq_neg hQ (by assumption)) (by assumption) | exact jq_neg (jq_neg hQ (by assumption)) (by assumption)
                                                · refine jr_ic rfl ?_
                                                  refine jr_goto rfl ?_
                                                  refine jr_iret rfl rfl (Nat.zero_le _) (Nat.zero_le _) ?_
                                                  rw [jw_two, if_neg (show ¬ c.toInt = 37 by omega), if_neg (show ¬ c.toInt = 38 by omega), if_neg (show ¬ c.toInt = 42 by omega), if_neg (show ¬ c.toInt = 43 by omega), if_neg (show ¬ c.toInt = 45 by omega), if_neg (show ¬ c.toInt = 47 by omega), if_neg (show ¬ c.toInt = 60 by omega), if_neg (show ¬ c.toInt = 61 by omega), if_neg (show ¬ c.toInt = 62 by omega)] at hQ; first | exact hQ | exact jq_pos hQ (by assumption) | exact jq_neg hQ (by assumption) | exact jq_pos (jq_pos hQ (by assumption)) (by assumption) | exact jq_neg (jq_pos hQ (by assumption)) (by assumption) | exact jq_pos (jq_neg hQ (by assumption)) (by assumption) | exact jq_neg (jq_neg hQ (by assumption)) (by assumption)
                                            · skip
                                              refine ⟨fun c1 => ?_, fun n1_59 => ?_⟩
                                              · refine jr_iload rfl rfl ?_
                                                refine jr_if_ne rfl (fun c60 => ?_) (fun c60 => ?_)
                                                · refine jr_ic rfl ?_
                                                  refine jr_goto rfl ?_
                                                  refine jr_iret rfl rfl (Nat.zero_le _) (Nat.zero_le _) ?_
                                                  rw [jw_two, if_neg (show ¬ c.toInt = 37 by omega), if_neg (show ¬ c.toInt = 38 by omega), if_neg (show ¬ c.toInt = 42 by omega), if_neg (show ¬ c.toInt = 43 by omega), if_neg (show ¬ c.toInt = 45 by omega), if_neg (show ¬ c.toInt = 47 by omega), if_neg (show ¬ c.toInt = 60 by omega), if_neg (show ¬ c.toInt = 61 by omega), if_neg (show ¬ c.toInt = 62 by omega)] at hQ; first | exact hQ | exact jq_pos hQ (by assumption) | exact jq_neg hQ (by assumption) | exact jq_pos (jq_pos hQ (by assumption)) (by assumption) | exact jq_neg (jq_pos hQ (by assumption)) (by assumption) | exact jq_pos (jq_neg hQ (by assumption)) (by assumption) | exact jq_neg (jq_neg hQ (by assumption)) (by assumption)
                                                · refine jr_iload rfl rfl ?_
                                                  refine jr_if_eq rfl (fun c62 => ?_) (fun c62 => ?_)
                                                  · refine jr_ic rfl ?_
                                                    refine jr_iret rfl rfl (Nat.zero_le _) (Nat.zero_le _) ?_
                                                    rw [jw_two, if_neg (show ¬ c.toInt = 37 by omega), if_neg (show ¬ c.toInt = 38 by omega), if_neg (show ¬ c.toInt = 42 by omega), if_neg (show ¬ c.toInt = 43 by omega), if_neg (show ¬ c.toInt = 45 by omega), if_neg (show ¬ c.toInt = 47 by omega), if_neg (show ¬ c.toInt = 60 by omega), if_neg (show ¬ c.toInt = 61 by omega), if_neg (show ¬ c.toInt = 62 by omega)] at hQ; first | exact hQ | exact jq_pos hQ (by assumption) | exact jq_neg hQ (by assumption) | exact jq_pos (jq_pos hQ (by assumption)) (by assumption) | exact jq_neg (jq_pos hQ (by assumption)) (by assumption) | exact jq_pos (jq_neg hQ (by assumption)) (by assumption) | exact jq_neg (jq_neg hQ (by assumption)) (by assumption)
                                                  · refine jr_ic rfl ?_
                                                    refine jr_goto rfl ?_
                                                    refine jr_iret rfl rfl (Nat.zero_le _) (Nat.zero_le _) ?_
                                                    rw [jw_two, if_neg (show ¬ c.toInt = 37 by omega), if_neg (show ¬ c.toInt = 38 by omega), if_neg (show ¬ c.toInt = 42 by omega), if_neg (show ¬ c.toInt = 43 by omega), if_neg (show ¬ c.toInt = 45 by omega), if_neg (show ¬ c.toInt = 47 by omega), if_neg (show ¬ c.toInt = 60 by omega), if_neg (show ¬ c.toInt = 61 by omega), if_neg (show ¬ c.toInt = 62 by omega)] at hQ; first | exact hQ | exact jq_pos hQ (by assumption) | exact jq_neg hQ (by assumption) | exact jq_pos (jq_pos hQ (by assumption)) (by assumption) | exact jq_neg (jq_pos hQ (by assumption)) (by assumption) | exact jq_pos (jq_neg hQ (by assumption)) (by assumption) | exact jq_neg (jq_neg hQ (by assumption)) (by assumption)
                                              · skip
                                                refine ⟨fun c1 => ?_, fun n1_60 => ?_⟩
                                                · refine jr_iload rfl rfl ?_
                                                  refine jr_iload rfl rfl ?_
                                                  refine jr_icmp_ge rfl (fun c32 => ?_) (fun c32 => ?_)
                                                  · refine jr_ic rfl ?_
                                                    refine jr_iret rfl rfl (Nat.zero_le _) (Nat.zero_le _) ?_
                                                    rw [jw_two, if_neg (show ¬ c.toInt = 37 by omega), if_neg (show ¬ c.toInt = 38 by omega), if_neg (show ¬ c.toInt = 42 by omega), if_neg (show ¬ c.toInt = 43 by omega), if_neg (show ¬ c.toInt = 45 by omega), if_neg (show ¬ c.toInt = 47 by omega), if_pos c1] at hQ; first | exact hQ | exact jq_pos hQ (by assumption) | exact jq_neg hQ (by assumption) | exact jq_pos (jq_pos hQ (by assumption)) (by assumption) | exact jq_neg (jq_pos hQ (by assumption)) (by assumption) | exact jq_pos (jq_neg hQ (by assumption)) (by assumption) | exact jq_neg (jq_neg hQ (by assumption)) (by assumption)
                                                  · refine jr_ic rfl ?_
                                                    refine jr_goto rfl ?_
                                                    refine jr_iret rfl rfl (Nat.zero_le _) (Nat.zero_le _) ?_
                                                    rw [jw_two, if_neg (show ¬ c.toInt = 37 by omega), if_neg (show ¬ c.toInt = 38 by omega), if_neg (show ¬ c.toInt = 42 by omega), if_neg (show ¬ c.toInt = 43 by omega), if_neg (show ¬ c.toInt = 45 by omega), if_neg (show ¬ c.toInt = 47 by omega), if_pos c1] at hQ; first | exact hQ | exact jq_pos hQ (by assumption) | exact jq_neg hQ (by assumption) | exact jq_pos (jq_pos hQ (by assumption)) (by assumption) | exact jq_neg (jq_pos hQ (by assumption)) (by assumption) | exact jq_pos (jq_neg hQ (by assumption)) (by assumption) | exact jq_neg (jq_neg hQ (by assumption)) (by assumption)
                                                · skip
                                                  refine ⟨fun c1 => ?_, fun n1_61 => ?_⟩
                                                  · refine jr_iload rfl rfl ?_
                                                    refine jr_iload rfl rfl ?_
                                                    refine jr_icmp_ne rfl (fun c46 => ?_) (fun c46 => ?_)
                                                    · refine jr_ic rfl ?_
                                                      refine jr_iret rfl rfl (Nat.zero_le _) (Nat.zero_le _) ?_
                                                      rw [jw_two, if_neg (show ¬ c.toInt = 37 by omega), if_neg (show ¬ c.toInt = 38 by omega), if_neg (show ¬ c.toInt = 42 by omega), if_neg (show ¬ c.toInt = 43 by omega), if_neg (show ¬ c.toInt = 45 by omega), if_neg (show ¬ c.toInt = 47 by omega), if_neg (show ¬ c.toInt = 60 by omega), if_pos c1] at hQ; first | exact hQ | exact jq_pos hQ (by assumption) | exact jq_neg hQ (by assumption) | exact jq_pos (jq_pos hQ (by assumption)) (by assumption) | exact jq_neg (jq_pos hQ (by assumption)) (by assumption) | exact jq_pos (jq_neg hQ (by assumption)) (by assumption) | exact jq_neg (jq_neg hQ (by assumption)) (by assumption)
                                                    · refine jr_ic rfl ?_
                                                      refine jr_goto rfl ?_
                                                      refine jr_iret rfl rfl (Nat.zero_le _) (Nat.zero_le _) ?_
                                                      rw [jw_two, if_neg (show ¬ c.toInt = 37 by omega), if_neg (show ¬ c.toInt = 38 by omega), if_neg (show ¬ c.toInt = 42 by omega), if_neg (show ¬ c.toInt = 43 by omega), if_neg (show ¬ c.toInt = 45 by omega), if_neg (show ¬ c.toInt = 47 by omega), if_neg (show ¬ c.toInt = 60 by omega), if_pos c1] at hQ; first | exact hQ | exact jq_pos hQ (by assumption) | exact jq_neg hQ (by assumption) | exact jq_pos (jq_pos hQ (by assumption)) (by assumption) | exact jq_neg (jq_pos hQ (by assumption)) (by assumption) | exact jq_pos (jq_neg hQ (by assumption)) (by assumption) | exact jq_neg (jq_neg hQ (by assumption)) (by assumption)
                                                  · skip
                                                    refine ⟨fun c1 => ?_, fun n1_62 => ?_⟩
                                                    · refine jr_iload rfl rfl ?_
                                                      refine jr_iload rfl rfl ?_
                                                      refine jr_icmp_le rfl (fun c39 => ?_) (fun c39 => ?_)
                                                      · refine jr_ic rfl ?_
                                                        refine jr_iret rfl rfl (Nat.zero_le _) (Nat.zero_le _) ?_
                                                        rw [jw_two, if_neg (show ¬ c.toInt = 37 by omega), if_neg (show ¬ c.toInt = 38 by omega), if_neg (show ¬ c.toInt = 42 by omega), if_neg (show ¬ c.toInt = 43 by omega), if_neg (show ¬ c.toInt = 45 by omega), if_neg (show ¬ c.toInt = 47 by omega), if_neg (show ¬ c.toInt = 60 by omega), if_neg (show ¬ c.toInt = 61 by omega), if_pos c1] at hQ; first | exact hQ | exact jq_pos hQ (by assumption) | exact jq_neg hQ (by assumption) | exact jq_pos (jq_pos hQ (by assumption)) (by assumption) | exact jq_neg (jq_pos hQ (by assumption)) (by assumption) | exact jq_pos (jq_neg hQ (by assumption)) (by assumption) | exact jq_neg (jq_neg hQ (by assumption)) (by assumption)
                                                      · refine jr_ic rfl ?_
                                                        refine jr_goto rfl ?_
                                                        refine jr_iret rfl rfl (Nat.zero_le _) (Nat.zero_le _) ?_
                                                        rw [jw_two, if_neg (show ¬ c.toInt = 37 by omega), if_neg (show ¬ c.toInt = 38 by omega), if_neg (show ¬ c.toInt = 42 by omega), if_neg (show ¬ c.toInt = 43 by omega), if_neg (show ¬ c.toInt = 45 by omega), if_neg (show ¬ c.toInt = 47 by omega), if_neg (show ¬ c.toInt = 60 by omega), if_neg (show ¬ c.toInt = 61 by omega), if_pos c1] at hQ; first | exact hQ | exact jq_pos hQ (by assumption) | exact jq_neg hQ (by assumption) | exact jq_pos (jq_pos hQ (by assumption)) (by assumption) | exact jq_neg (jq_pos hQ (by assumption)) (by assumption) | exact jq_pos (jq_neg hQ (by assumption)) (by assumption) | exact jq_neg (jq_neg hQ (by assumption)) (by assumption)
                                                    · skip
                                                      refine jr_iload rfl rfl ?_
                                                      refine jr_if_ne rfl (fun c60 => ?_) (fun c60 => ?_)
                                                      · refine jr_ic rfl ?_
                                                        refine jr_goto rfl ?_
                                                        refine jr_iret rfl rfl (Nat.zero_le _) (Nat.zero_le _) ?_
                                                        rw [jw_two, if_neg (show ¬ c.toInt = 37 by omega), if_neg (show ¬ c.toInt = 38 by omega), if_neg (show ¬ c.toInt = 42 by omega), if_neg (show ¬ c.toInt = 43 by omega), if_neg (show ¬ c.toInt = 45 by omega), if_neg (show ¬ c.toInt = 47 by omega), if_neg (show ¬ c.toInt = 60 by omega), if_neg (show ¬ c.toInt = 61 by omega), if_neg (show ¬ c.toInt = 62 by omega)] at hQ; first | exact hQ | exact jq_pos hQ (by assumption) | exact jq_neg hQ (by assumption) | exact jq_pos (jq_pos hQ (by assumption)) (by assumption) | exact jq_neg (jq_pos hQ (by assumption)) (by assumption) | exact jq_pos (jq_neg hQ (by assumption)) (by assumption) | exact jq_neg (jq_neg hQ (by assumption)) (by assumption)
                                                      · refine jr_iload rfl rfl ?_
                                                        refine jr_if_eq rfl (fun c62 => ?_) (fun c62 => ?_)
                                                        · refine jr_ic rfl ?_
                                                          refine jr_iret rfl rfl (Nat.zero_le _) (Nat.zero_le _) ?_
                                                          rw [jw_two, if_neg (show ¬ c.toInt = 37 by omega), if_neg (show ¬ c.toInt = 38 by omega), if_neg (show ¬ c.toInt = 42 by omega), if_neg (show ¬ c.toInt = 43 by omega), if_neg (show ¬ c.toInt = 45 by omega), if_neg (show ¬ c.toInt = 47 by omega), if_neg (show ¬ c.toInt = 60 by omega), if_neg (show ¬ c.toInt = 61 by omega), if_neg (show ¬ c.toInt = 62 by omega)] at hQ; first | exact hQ | exact jq_pos hQ (by assumption) | exact jq_neg hQ (by assumption) | exact jq_pos (jq_pos hQ (by assumption)) (by assumption) | exact jq_neg (jq_pos hQ (by assumption)) (by assumption) | exact jq_pos (jq_neg hQ (by assumption)) (by assumption) | exact jq_neg (jq_neg hQ (by assumption)) (by assumption)
                                                        · refine jr_ic rfl ?_
                                                          refine jr_goto rfl ?_
                                                          refine jr_iret rfl rfl (Nat.zero_le _) (Nat.zero_le _) ?_
                                                          rw [jw_two, if_neg (show ¬ c.toInt = 37 by omega), if_neg (show ¬ c.toInt = 38 by omega), if_neg (show ¬ c.toInt = 42 by omega), if_neg (show ¬ c.toInt = 43 by omega), if_neg (show ¬ c.toInt = 45 by omega), if_neg (show ¬ c.toInt = 47 by omega), if_neg (show ¬ c.toInt = 60 by omega), if_neg (show ¬ c.toInt = 61 by omega), if_neg (show ¬ c.toInt = 62 by omega)] at hQ; first | exact hQ | exact jq_pos hQ (by assumption) | exact jq_neg hQ (by assumption) | exact jq_pos (jq_pos hQ (by assumption)) (by assumption) | exact jq_neg (jq_pos hQ (by assumption)) (by assumption) | exact jq_pos (jq_neg hQ (by assumption)) (by assumption) | exact jq_neg (jq_neg hQ (by assumption)) (by assumption)

