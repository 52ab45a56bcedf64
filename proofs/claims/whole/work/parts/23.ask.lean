set_option maxHeartbeats 4000000 in
set_option maxRecDepth 100000 in
theorem ev_MD_ask {d : Nat} {h : jx_H} {Q : Option jx_V → jx_H → Prop} {b : Nat} {x : Int32} (hb : jh_I h 11 0 43 = nI b) (hb2 : b < 2) (hdl : ¬ jw_dL (jC h b) = 0) (hQ : ∀ F : Nat → Int32, (∀ f, f < 49 ∨ 53 < f → F f = jh_I h 11 0 f) → F 49 = x → F 50 = 0 → F 51 = 0 → F 52 = jw_down (jw_dU (jC h b) (jA h 1 + x) (jA h 0 + 1)) (jw_dL (jC h b)) → F 53 = 0 → Q none (ju_I h 11 0 F)) : jx_Ev jm_MD_ask (d + 3) 0 0 false 1 [jv_r 11 0, jv_i x] h Q := by
  show jx_W (jm_MD_ask, d + 3, 0, 0, false, 1, jh_n h) Q 0 0 0 [some (jv_r 11 0), some (jv_i x)] [] h
  refine jr_aload rfl rfl ?_
  refine jr_iload rfl rfl ?_
  refine jr_putI rfl rfl ?_
  refine jr_aload rfl rfl ?_
  refine jr_ic rfl ?_
  refine jr_putI rfl rfl ?_
  refine jr_aload rfl rfl ?_
  refine jr_ic rfl ?_
  refine jr_putI rfl rfl ?_
  refine jr_aload rfl rfl ?_
  refine jr_ic rfl ?_
  refine jr_putI rfl rfl ?_
  refine jr_aload rfl rfl ?_
  refine jr_aload rfl rfl ?_
  refine jr_aload rfl rfl ?_
  refine jr_getR rfl rfl rfl rfl (Or.inl rfl) ?_
  refine jr_ic rfl ?_
  refine jr_iald (len := 337) rfl rfl (jn_c 1) (by omega) ?_
  refine jr_iload rfl rfl ?_
  refine jr_iadd rfl ?_
  refine jr_aload rfl rfl ?_
  refine jr_getR rfl rfl rfl rfl (Or.inl rfl) ?_
  refine jr_ic rfl ?_
  refine jr_iald (len := 337) rfl rfl (jn_c 0) (by omega) ?_
  refine jr_ic rfl ?_
  refine jr_iadd rfl ?_
  refine jr_cv2 (mc' := 0) (ms' := 0) rfl jm_MD_driftUpper_n jm_MD_driftUpper_f rfl rfl rfl rfl rfl rfl rfl (Nat.zero_le _) (Nat.zero_le _) ?_
  refine ev_MD_driftUpper (b := b) hb hb2 ?_
  refine jr_aload rfl rfl ?_
  refine jr_cv0 (mc' := 0) (ms' := 0) rfl jm_MD_driftLower_n jm_MD_driftLower_f rfl rfl rfl rfl rfl rfl rfl (Nat.zero_le _) (Nat.zero_le _) ?_
  refine ev_MD_driftLower (b := b) hb hb2 ?_
  refine jr_cs2 (mc' := 0) (ms' := 0) rfl jm_MD_down_n jm_MD_down_f rfl rfl rfl rfl rfl (Nat.zero_le _) (Nat.zero_le _) ?_
  refine ev_MD_down hdl ?_
  refine jr_putI rfl rfl ?_
  refine jr_vret rfl rfl (Nat.zero_le _) (Nat.zero_le _) ?_
  simp only [jg_uu, jg_II]
  refine hQ _ (fun f hf => ?_) rfl rfl rfl rfl rfl
  rw [jg_un (by omega), jg_un (by omega), jg_un (by omega), jg_un (by omega), jg_un (by omega)]

