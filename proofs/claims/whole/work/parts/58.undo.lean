theorem eB_goes0 {d : Nat} {h hm : jx_H} {Q : Option jx_V → jx_H → Prop} {b r w v : Nat} {a : jw_A} (hB : jz_B hm b) (hmo : ¬ jC hm b 0 0 = 0) (hR : jy_R h r hm b) (hA : jy_A h 0 r (jw_re hm b (nI v) a)) (hL : jy_L h 0 (jw_re hm b (nI v) a)) (hG : jz_G hm b a) (hw : a 0 = nI w) (hv : v ≤ 31) (hwn : w + 1 ≤ 300)
    (kk : ∀ (T' S' : Nat → Nat → Int32) (kc' : Nat), jy_T (jy_np h r) T' a → (∀ j, j < w → T' 31 j = a (37 + j)) → Q none (jP (jK h 0 T' (r + 1)) S' kc')) : jx_Ev jm_Cal_goes (d + 4) 0 0 false 0 [jv_r 1 0] h Q := by
  obtain ⟨q1, q2, q3, q4, q5⟩ := jz_G_re hB.2.2 hmo hG hw hwn hv
  have hL' : ∀ j, j < w + 1 → jh_I h 31 0 j = jw_re hm b (nI v) a (37 + j) := fun j hj => hL j (by rw [jn_1 q2 (by omega)]; exact hj)
  have e := ev_goes0 (d := d) (h := h) (hm := hm) (b := b) (r := r) (w := w) (l := nI v) (Q := Q) (S := fun x => jh_I h x 0) (kc := jh_M h 5 0 5) (T0 := fun x => jh_I h x 0) (a := jw_re hm b (nI v) a) hB.2.2 hR hmo (jy_A_T hA) q2 (by omega) ((hL' w (by omega)).trans q4) (nI_pos' (by omega)) (fun T1 hT1 hL1 => by
    rw [jw_re_eq hw (by omega), jw_bk_gb hB.2.2] at hT1
    exact kk T1 _ _ (jy_T_upd' hT1 (by omega)) (fun j hj => by rw [hL1]; exact (hL' j (by omega)).trans (q3 j hj)))
  rw [jK_0 hA] at e
  exact e
theorem jw_x2 {a a2 : jw_A} {x : Int32} (h : a2 = upd a 36 (a 36 ^^^ x)) : a = upd a2 36 (a2 36 ^^^ x) := by
  funext k
  by_cases e : k = 36
  · rw [e, jg_us, h, jg_us, Int32.xor_assoc, Int32.xor_self, Int32.xor_zero]
  · rw [jg_un e, h, jg_un e]
theorem jw_v2 {a a2 : jw_A} {p : Nat} {x : Int32} (h : a2 = upd a (7 + p) x) : a = upd a2 (7 + p) (a (7 + p)) := by
  funext k
  by_cases e : k = 7 + p
  · rw [e, jg_us]
  · rw [jg_un e, h, jg_un e]
/-- the forgiven row, one turned -/
theorem jy_T_f {n : Nat} {T : Nat → Nat → Int32} {a : jw_A} {i : Nat} (hT : jy_T n T a) (hi : i < 12) : jy_T n (fun x => if x = 36 then upd (T 36) i ((if T 36 i = 0 then 1 else 0) &&& 1) else T x) (upd a 36 (a 36 ^^^ ((1 : Int32) <<< (nI i &&& 31)))) := by
  obtain ⟨t1, t2, t3, t4⟩ := hT
  refine ⟨t1.trans (jg_un (by omega)).symm, t2.trans (jg_un (by omega)).symm, fun p hp => ⟨(t3 p hp).1.trans (jg_un (by omega)).symm, fun q2 => ((t3 p hp).2 q2).trans (jg_un (by omega)).symm⟩, fun d hd => ⟨(t4 d hd).1.trans (jg_un (by omega)).symm, (t4 d hd).2.1.trans (jg_un (by omega)).symm, ?_⟩⟩
  show upd (T 36) i _ d = _
  rw [jg_us, jy_xor (by omega) (by omega)]
  by_cases e : d = i
  · rw [e, jg_us, if_pos rfl, (t4 i hi).2.2]
    split <;> rfl
  · rw [jg_un e, if_neg e]; exact (t4 d hd).2.2
theorem jy_T_v {n : Nat} {T : Nat → Nat → Int32} {a : jw_A} {i : Nat} {x : Int32} (hT : jy_T n T a) (hi : i < 5) : jy_T n (fun k => if k = 33 then upd (T 33) i x else T k) (upd a (7 + i) x) := by
  obtain ⟨t1, t2, t3, t4⟩ := hT
  refine ⟨t1.trans (jg_un (by omega)).symm, t2.trans (jg_un (by omega)).symm, fun p hp => ⟨(t3 p hp).1.trans (jg_un (by omega)).symm, ?_⟩, fun d hd => ⟨(t4 d hd).1.trans (jg_un (by omega)).symm, (t4 d hd).2.1.trans (jg_un (by omega)).symm, (t4 d hd).2.2.trans ?_⟩⟩
  · intro q2
    show upd (T 33) i x p = _
    by_cases e : p = i
    · rw [e, jg_us, jg_us]
    · rw [jg_un e, jg_un (by omega)]; exact (t3 p hp).2 q2
  · rw [jg_un (show ¬ 36 = 7 + i by omega)]
set_option maxHeartbeats 800000 in
set_option maxRecDepth 100000 in
theorem pd_undo {d : Nat} {hc hm : jx_H} (hRel : jz_Rel hc hm) : jx_Ev jm_JV_undo (d + 40) 0 0 false 0 [jv_r 10 0] hc (fun r hc' => jx_Ev jm_MD_undo (d + 40) 0 0 false 1 [jv_r 11 0] hm (fun r' hm' => r = r' ∧ jz_Rel hc' hm')) := by
  have hRel0 := hRel
  obtain ⟨b, r, ⟨hw, hG, hr2, hto, hsp, hR, hA, hL⟩, hTa, hFa, hLy, hTi, hLe, hBo, hAc, hWo⟩ := hRel
  have hb2 := hw.2.1
  obtain ⟨n, u, a1, a2, a3, a4, a5, σ, s1, s2, s3, s4, s5, s6⟩ := id hAc
  have hC0 : jz_C hc hm b r := ⟨hw, hG, hr2, hto, hsp, hR, hA, hL⟩
  have hB := jz_W_B hw
  have hnd12 := hw.2.2.1.2.2.1.2
  have hnp5 := hw.2.2.1.2.1.2
  rcases n with _ | k
  · have q1 := jz_gi a2 (by omega)
    have q2 := jz_gi a4 (by omega)
    show jx_W (jm_JV_undo, d + 40, 0, 0, false, 0, _) _ 0 0 0 [some (jv_r 10 0), none] [] _
    refine jr_aload rfl rfl ?_
    refine jr_getR rfl rfl rfl rfl (Or.inl rfl) ?_
    refine jr_cv0 (mc' := 0) (ms' := 0) rfl jm_Acts_stepBack_n jm_Acts_stepBack_f rfl rfl rfl rfl rfl rfl rfl (Nat.zero_le _) (Nat.zero_le _) ?_
    show jx_W (jm_Acts_stepBack, _, _, _, _, _, _) _ 0 0 0 [some _] [] _
    refine jr_aload rfl rfl ?_
    refine jr_getI rfl rfl ?_
    rw [a2]
    refine jr_if_gt rfl (fun z => absurd z (show ¬ (0 : Int32) < nI 0 by decide)) (fun _ => ?_)
    refine jr_ic rfl ?_
    refine jr_zret rfl rfl rfl (Nat.zero_le _) (Nat.zero_le _) ?_
    refine jr_if_ne rfl (fun z => absurd (by decide) z) (fun _ => ?_)
    refine jr_ic rfl ?_
    refine jr_zret rfl rfl rfl (Nat.zero_le _) (Nat.zero_le _) ?_
    show jx_W (jm_MD_undo, d + 40, 0, 0, false, 1, _) _ 0 0 0 [some _] [] _
    refine jr_aload rfl rfl ?_
    refine jr_getI rfl rfl ?_
    rw [a4]
    refine jr_if_ne rfl (fun z => absurd rfl z) (fun _ => ?_)
    refine jr_ic rfl ?_
    refine jr_zret rfl rfl rfl (Nat.zero_le _) (Nat.zero_le _) ?_
    exact ⟨rfl, hRel0⟩
  · have hF4 : jh_I hc 0 0 4 - 1 = nI k := by rw [a2]; exact nI_pred k
    have f6 : jh_I hm 11 0 60 - 1 = nI k := by rw [a4]; exact nI_pred k
    rcases s6 k (by omega) with hact | hact | hact | hact
    · obtain ⟨-, w, hw2, hwl, -, -⟩ := id (s4 k (by omega))
      obtain ⟨hk, m, w0, hwh, hm60, hw0, hle, hmo, ha2⟩ := hact
      have ea : jA hm = σ (k + 1) := s1.symm
      have hA1 : jy_A (ju_I hc 0 0 (upd (jh_I hc 0 0) 4 (jh_I hc 0 0 4 - 1))) 0 r (jA hm) := hA
      have hL1 : jy_L (ju_I hc 0 0 (upd (jh_I hc 0 0) 4 (jh_I hc 0 0 4 - 1))) 0 (jA hm) := hL
      show jx_W (jm_JV_undo, d + 40, 0, 0, false, 0, _) _ 0 0 0 [some (jv_r 10 0), none] [] _
      refine jr_aload rfl rfl ?_
      refine jr_getR rfl rfl rfl rfl (Or.inl rfl) ?_
      refine jr_cv0 (mc' := 0) (ms' := 0) rfl jm_Acts_stepBack_n jm_Acts_stepBack_f rfl rfl rfl rfl rfl rfl rfl (Nat.zero_le _) (Nat.zero_le _) ?_
      show jx_W (jm_Acts_stepBack, _, _, _, _, _, _) _ 0 0 0 [some _] [] _
      refine jr_aload rfl rfl ?_
      refine jr_getI rfl rfl ?_
      rw [show jh_I hc 0 0 4 = nI (k + 1) from a2]
      refine jr_if_gt rfl (fun _ => ?_) (fun z => absurd (show (0 : Int32) < nI (k + 1) from nI_lt (a := 0) (b := k + 1) (by omega) (by omega)) z)
      refine jr_aload rfl rfl ?_
      refine jr_dup_r rfl ?_
      refine jr_getI rfl rfl ?_
      refine jr_ic rfl ?_
      refine jr_isub rfl ?_
      refine jr_putI rfl rfl ?_
      refine jr_ic rfl ?_
      refine jr_zret rfl rfl rfl (Nat.zero_le _) (Nat.zero_le _) ?_
      refine jr_if_ne rfl (fun _ => ?_) (fun z => absurd z (by decide))
      refine jr_aload rfl rfl ?_
      refine jr_getR rfl rfl rfl rfl (Or.inl rfl) ?_
      refine jr_getR rfl rfl rfl rfl (Or.inl rfl) ?_
      refine jr_aload rfl rfl ?_
      refine jr_getR rfl rfl rfl rfl (Or.inl rfl) ?_
      refine jr_getI rfl rfl ?_
      refine jr_iald (len := 40) rfl rfl hF4 (by omega) ?_
      rw [show jh_I (ju_I hc 0 0 (upd (jh_I hc 0 0) 4 (jh_I hc 0 0 4 - 1))) 49 0 k = nI m from hwh]
      refine jr_ist1 rfl rfl ?_
      refine jr_aload rfl rfl ?_
      refine jr_getR rfl rfl rfl rfl (Or.inl rfl) ?_
      refine jr_getR rfl rfl rfl rfl (Or.inl rfl) ?_
      refine jr_aload rfl rfl ?_
      refine jr_getR rfl rfl rfl rfl (Or.inl rfl) ?_
      refine jr_getI rfl rfl ?_
      refine jr_iald (len := 40) rfl rfl hF4 (by omega) ?_
      rw [show jh_I (ju_I hc 0 0 (upd (jh_I hc 0 0) 4 (jh_I hc 0 0 4 - 1))) 48 0 k = 0 from hk]
      refine jr_tsw rfl ?_
      refine ⟨fun _ => ?_, fun z => absurd (by decide) z⟩
      refine jr_aload rfl rfl ?_
      refine jr_iload rfl rfl ?_
      refine jr_cv1 (mc' := 0) (ms' := 0) rfl jm_JV_takeBack_n jm_JV_takeBack_f rfl rfl rfl rfl rfl rfl rfl (Nat.zero_le _) (Nat.zero_le _) ?_
      refine eB_takeBack (hm := hm) (b := b) (a := σ k) hB hmo hR (by rw [← ha2, ← ea]; exact hA1) (by rw [← ha2, ← ea]; exact hL1) (s4 k (by omega)) hw0 hm60 hle (fun T1 S1 kc1 hT1 hLL => ?_)
      have hLL' : ∀ j, j < w → T1 31 j = σ k (37 + j) := fun j hj => hLL j (by have := jn_eq (hw0.symm.trans hw2) (by omega) (by omega); omega)
      refine jr_goto rfl ?_
      refine jr_ic rfl ?_
      refine jr_zret rfl rfl rfl (Nat.zero_le _) (Nat.zero_le _) ?_
      show jx_W (jm_MD_undo, d + 40, 0, 0, false, 1, _) _ 0 0 0 [some _] [] _
      refine jr_aload rfl rfl ?_
      refine jr_getI rfl rfl ?_
      rw [a4]
      refine jr_if_ne rfl (fun _ => ?_) (fun z => absurd z (nI_ne0 (by omega) (by omega)))
      refine jr_aload rfl rfl ?_
      refine jr_dup_r rfl ?_
      refine jr_getI rfl rfl ?_
      refine jr_ic rfl ?_
      refine jr_isub rfl ?_
      refine jr_putI rfl rfl ?_
      refine jr_aload rfl rfl ?_
      refine jr_dup_r rfl ?_
      refine jr_getI rfl rfl ?_
      refine jr_ic rfl ?_
      refine jr_iadd rfl ?_
      refine jr_putI rfl rfl ?_
      refine jr_aload rfl rfl ?_
      refine jr_cv0 (mc' := 0) (ms' := 0) rfl jm_MD_exchange_n jm_MD_exchange_f rfl rfl rfl rfl rfl rfl rfl (Nat.zero_le _) (Nat.zero_le _) ?_
      simp only [jg_uu, jg_II]
      have f60 : jh_I (ju_I hm 11 0 (upd (upd (jh_I hm 11 0) 60 (jh_I hm 11 0 60 - 1)) 61 (jh_I hm 11 0 61 + 1))) 11 0 60 = nI k := f6
      refine ev_exchange (n := k) f60 (by omega) (fun W A w1 w2 w3 w4 => ?_)
      have hAk : A = σ k := funext (fun q => by
        rcases Nat.lt_or_ge q 337 with z | z
        · exact (w3 q z).trans (s2 k (by omega) q z)
        · exact (w4 q z).trans (s5 k (by omega) q z).symm)
      refine jr_ic rfl ?_
      refine jr_zret rfl rfl rfl (Nat.zero_le _) (Nat.zero_le _) ?_
      refine ⟨rfl, jz_Rel_un (n := k + 1) (u := u) (n' := k) (u' := u + 1) (w' := w) hC0 hTa hFa hLy hTi hLe hBo hWo a1 (by omega) s4 s5 s6 hAk hT1 hw2 hwl hLL' ⟨hF4, a3⟩ f6 ?_ (fun f h1 h2 => (jg_un h2).trans (jg_un h1)) (fun j hj q hq => (w2 _ (by omega)).trans (s2 j (by omega) q hq)) (fun j h1 h2 q hq => ?_)⟩
      · show jh_I hm 11 0 61 + 1 = _
        rw [a5, nI_1]
      · rcases Nat.eq_or_lt_of_le h1 with z | z
        · subst z
          rw [w1 q hq]; exact congrFun ea q
        · exact (w2 _ (by omega)).trans (s3 j (by omega) (by omega) q hq)
    · obtain ⟨-, w, hw2, hwl, -, -⟩ := id (s4 k (by omega))
      obtain ⟨hk, hmo, m, w0, hwh, hm31, hw0, hle, ha2⟩ := hact
      have ea : jA hm = σ (k + 1) := s1.symm
      have hA1 : jy_A (ju_I hc 0 0 (upd (jh_I hc 0 0) 4 (jh_I hc 0 0 4 - 1))) 0 r (jA hm) := hA
      have hL1 : jy_L (ju_I hc 0 0 (upd (jh_I hc 0 0) 4 (jh_I hc 0 0 4 - 1))) 0 (jA hm) := hL
      show jx_W (jm_JV_undo, d + 40, 0, 0, false, 0, _) _ 0 0 0 [some (jv_r 10 0), none] [] _
      refine jr_aload rfl rfl ?_
      refine jr_getR rfl rfl rfl rfl (Or.inl rfl) ?_
      refine jr_cv0 (mc' := 0) (ms' := 0) rfl jm_Acts_stepBack_n jm_Acts_stepBack_f rfl rfl rfl rfl rfl rfl rfl (Nat.zero_le _) (Nat.zero_le _) ?_
      show jx_W (jm_Acts_stepBack, _, _, _, _, _, _) _ 0 0 0 [some _] [] _
      refine jr_aload rfl rfl ?_
      refine jr_getI rfl rfl ?_
      rw [show jh_I hc 0 0 4 = nI (k + 1) from a2]
      refine jr_if_gt rfl (fun _ => ?_) (fun z => absurd (show (0 : Int32) < nI (k + 1) from nI_lt (a := 0) (b := k + 1) (by omega) (by omega)) z)
      refine jr_aload rfl rfl ?_
      refine jr_dup_r rfl ?_
      refine jr_getI rfl rfl ?_
      refine jr_ic rfl ?_
      refine jr_isub rfl ?_
      refine jr_putI rfl rfl ?_
      refine jr_ic rfl ?_
      refine jr_zret rfl rfl rfl (Nat.zero_le _) (Nat.zero_le _) ?_
      refine jr_if_ne rfl (fun _ => ?_) (fun z => absurd z (by decide))
      refine jr_aload rfl rfl ?_
      refine jr_getR rfl rfl rfl rfl (Or.inl rfl) ?_
      refine jr_getR rfl rfl rfl rfl (Or.inl rfl) ?_
      refine jr_aload rfl rfl ?_
      refine jr_getR rfl rfl rfl rfl (Or.inl rfl) ?_
      refine jr_getI rfl rfl ?_
      refine jr_iald (len := 40) rfl rfl hF4 (by omega) ?_
      rw [show jh_I (ju_I hc 0 0 (upd (jh_I hc 0 0) 4 (jh_I hc 0 0 4 - 1))) 49 0 k = nI m from hwh]
      refine jr_ist1 rfl rfl ?_
      refine jr_aload rfl rfl ?_
      refine jr_getR rfl rfl rfl rfl (Or.inl rfl) ?_
      refine jr_getR rfl rfl rfl rfl (Or.inl rfl) ?_
      refine jr_aload rfl rfl ?_
      refine jr_getR rfl rfl rfl rfl (Or.inl rfl) ?_
      refine jr_getI rfl rfl ?_
      refine jr_iald (len := 40) rfl rfl hF4 (by omega) ?_
      rw [show jh_I (ju_I hc 0 0 (upd (jh_I hc 0 0) 4 (jh_I hc 0 0 4 - 1))) 48 0 k = 1 from hk]
      refine jr_tsw rfl ?_
      refine ⟨fun z => absurd z (by decide), fun _ => ?_⟩
      refine ⟨fun _ => ?_, fun z => absurd (by decide) z⟩
      refine jr_aload rfl rfl ?_
      refine jr_ic rfl ?_
      refine jr_cv1 (mc' := 0) (ms' := 0) rfl jm_JV_takeBack_n jm_JV_takeBack_f rfl rfl rfl rfl rfl rfl rfl (Nat.zero_le _) (Nat.zero_le _) ?_
      show jx_W (jm_JV_takeBack, _, _, _, _, _, _) _ 0 0 0 [some _, some _, none] [] _
      refine jr_ic rfl ?_
      refine jr_ist2 rfl rfl ?_
      refine jr_iload rfl rfl ?_
      refine jr_iload rfl rfl ?_
      refine jr_icmp_ge rfl (fun z => absurd z (by decide)) (fun _ => ?_)
      refine jr_aload rfl rfl ?_
      refine jr_getR rfl rfl rfl rfl (Or.inl rfl) ?_
      refine jr_cv0 (mc' := 0) (ms' := 0) rfl jm_Cal_goes_n jm_Cal_goes_f rfl rfl rfl rfl rfl rfl rfl (Nat.zero_le _) (Nat.zero_le _) ?_
      refine eB_goes0 (hm := hm) (b := b) (a := σ k) hB hmo hR (by rw [← ha2, ← ea]; exact hA1) (by rw [← ha2, ← ea]; exact hL1) (s4 k (by omega)) hw0 hm31 hle (fun T1 S1 kc1 hT1 hLL => ?_)
      have hLL' : ∀ j, j < w → T1 31 j = σ k (37 + j) := fun j hj => hLL j (by have := jn_eq (hw0.symm.trans hw2) (by omega) (by omega); omega)
      refine jr_iinc2 rfl rfl ?_
      refine jr_goto rfl ?_
      refine jr_iload rfl rfl ?_
      refine jr_iload rfl rfl ?_
      refine jr_icmp_ge rfl (fun _ => ?_) (fun z => absurd (by decide) z)
      refine jr_vret rfl rfl (Nat.zero_le _) (Nat.zero_le _) ?_
      refine jr_goto rfl ?_
      refine jr_ic rfl ?_
      refine jr_zret rfl rfl rfl (Nat.zero_le _) (Nat.zero_le _) ?_
      show jx_W (jm_MD_undo, d + 40, 0, 0, false, 1, _) _ 0 0 0 [some _] [] _
      refine jr_aload rfl rfl ?_
      refine jr_getI rfl rfl ?_
      rw [a4]
      refine jr_if_ne rfl (fun _ => ?_) (fun z => absurd z (nI_ne0 (by omega) (by omega)))
      refine jr_aload rfl rfl ?_
      refine jr_dup_r rfl ?_
      refine jr_getI rfl rfl ?_
      refine jr_ic rfl ?_
      refine jr_isub rfl ?_
      refine jr_putI rfl rfl ?_
      refine jr_aload rfl rfl ?_
      refine jr_dup_r rfl ?_
      refine jr_getI rfl rfl ?_
      refine jr_ic rfl ?_
      refine jr_iadd rfl ?_
      refine jr_putI rfl rfl ?_
      refine jr_aload rfl rfl ?_
      refine jr_cv0 (mc' := 0) (ms' := 0) rfl jm_MD_exchange_n jm_MD_exchange_f rfl rfl rfl rfl rfl rfl rfl (Nat.zero_le _) (Nat.zero_le _) ?_
      simp only [jg_uu, jg_II]
      have f60 : jh_I (ju_I hm 11 0 (upd (upd (jh_I hm 11 0) 60 (jh_I hm 11 0 60 - 1)) 61 (jh_I hm 11 0 61 + 1))) 11 0 60 = nI k := f6
      refine ev_exchange (n := k) f60 (by omega) (fun W A w1 w2 w3 w4 => ?_)
      have hAk : A = σ k := funext (fun q => by
        rcases Nat.lt_or_ge q 337 with z | z
        · exact (w3 q z).trans (s2 k (by omega) q z)
        · exact (w4 q z).trans (s5 k (by omega) q z).symm)
      refine jr_ic rfl ?_
      refine jr_zret rfl rfl rfl (Nat.zero_le _) (Nat.zero_le _) ?_
      refine ⟨rfl, jz_Rel_un (n := k + 1) (u := u) (n' := k) (u' := u + 1) (w' := w) hC0 hTa hFa hLy hTi hLe hBo hWo a1 (by omega) s4 s5 s6 hAk hT1 hw2 hwl hLL' ⟨hF4, a3⟩ f6 ?_ (fun f h1 h2 => (jg_un h2).trans (jg_un h1)) (fun j hj q hq => (w2 _ (by omega)).trans (s2 j (by omega) q hq)) (fun j h1 h2 q hq => ?_)⟩
      · show jh_I hm 11 0 61 + 1 = _
        rw [a5, nI_1]
      · rcases Nat.eq_or_lt_of_le h1 with z | z
        · subst z
          rw [w1 q hq]; exact congrFun ea q
        · exact (w2 _ (by omega)).trans (s3 j (by omega) (by omega) q hq)
    · obtain ⟨-, w, hw2, hwl, -, -⟩ := id (s4 k (by omega))
      obtain ⟨hk, m, hwh, hmd, ha2⟩ := hact
      have ea : jA hm = σ (k + 1) := s1.symm
      have hA1 : jy_A (ju_I hc 0 0 (upd (jh_I hc 0 0) 4 (jh_I hc 0 0 4 - 1))) 0 r (jA hm) := hA
      have hL1 : jy_L (ju_I hc 0 0 (upd (jh_I hc 0 0) 4 (jh_I hc 0 0 4 - 1))) 0 (jA hm) := hL
      show jx_W (jm_JV_undo, d + 40, 0, 0, false, 0, _) _ 0 0 0 [some (jv_r 10 0), none] [] _
      refine jr_aload rfl rfl ?_
      refine jr_getR rfl rfl rfl rfl (Or.inl rfl) ?_
      refine jr_cv0 (mc' := 0) (ms' := 0) rfl jm_Acts_stepBack_n jm_Acts_stepBack_f rfl rfl rfl rfl rfl rfl rfl (Nat.zero_le _) (Nat.zero_le _) ?_
      show jx_W (jm_Acts_stepBack, _, _, _, _, _, _) _ 0 0 0 [some _] [] _
      refine jr_aload rfl rfl ?_
      refine jr_getI rfl rfl ?_
      rw [show jh_I hc 0 0 4 = nI (k + 1) from a2]
      refine jr_if_gt rfl (fun _ => ?_) (fun z => absurd (show (0 : Int32) < nI (k + 1) from nI_lt (a := 0) (b := k + 1) (by omega) (by omega)) z)
      refine jr_aload rfl rfl ?_
      refine jr_dup_r rfl ?_
      refine jr_getI rfl rfl ?_
      refine jr_ic rfl ?_
      refine jr_isub rfl ?_
      refine jr_putI rfl rfl ?_
      refine jr_ic rfl ?_
      refine jr_zret rfl rfl rfl (Nat.zero_le _) (Nat.zero_le _) ?_
      refine jr_if_ne rfl (fun _ => ?_) (fun z => absurd z (by decide))
      refine jr_aload rfl rfl ?_
      refine jr_getR rfl rfl rfl rfl (Or.inl rfl) ?_
      refine jr_getR rfl rfl rfl rfl (Or.inl rfl) ?_
      refine jr_aload rfl rfl ?_
      refine jr_getR rfl rfl rfl rfl (Or.inl rfl) ?_
      refine jr_getI rfl rfl ?_
      refine jr_iald (len := 40) rfl rfl hF4 (by omega) ?_
      rw [show jh_I (ju_I hc 0 0 (upd (jh_I hc 0 0) 4 (jh_I hc 0 0 4 - 1))) 49 0 k = nI m from hwh]
      refine jr_ist1 rfl rfl ?_
      refine jr_aload rfl rfl ?_
      refine jr_getR rfl rfl rfl rfl (Or.inl rfl) ?_
      refine jr_getR rfl rfl rfl rfl (Or.inl rfl) ?_
      refine jr_aload rfl rfl ?_
      refine jr_getR rfl rfl rfl rfl (Or.inl rfl) ?_
      refine jr_getI rfl rfl ?_
      refine jr_iald (len := 40) rfl rfl hF4 (by omega) ?_
      rw [show jh_I (ju_I hc 0 0 (upd (jh_I hc 0 0) 4 (jh_I hc 0 0 4 - 1))) 48 0 k = 2 from hk]
      refine jr_tsw rfl ?_
      refine ⟨fun z => absurd z (by decide), fun _ => ?_⟩
      refine ⟨fun z => absurd z (by decide), fun _ => ?_⟩
      refine ⟨fun _ => ?_, fun z => absurd (by decide) z⟩
      refine jr_aload rfl rfl ?_
      refine jr_iload rfl rfl ?_
      refine jr_cv1 (mc' := 0) (ms' := 0) rfl jm_JV_turnForgiven_n jm_JV_turnForgiven_f rfl rfl rfl rfl rfl rfl rfl (Nat.zero_le _) (Nat.zero_le _) ?_
      show jx_W (jm_JV_turnForgiven, _, _, _, _, _, _) _ 0 0 0 [some _, some _] [] _
      refine jr_aload rfl rfl ?_
      refine jr_getM rfl rfl rfl rfl hto ?_
      refine jr_iload rfl rfl ?_
      refine jr_cv1 (mc' := 0) (ms' := 0) rfl jm_Rep_hasDue_n jm_Rep_hasDue_f rfl rfl rfl rfl rfl rfl rfl (Nat.zero_le _) (Nat.zero_le _) ?_
      show jx_W (jm_Rep_hasDue, _, _, _, _, _, _) _ 0 0 0 [some _, some _] [] _
      refine jr_iload rfl rfl ?_
      refine jr_if_lt rfl (fun z => absurd z (nI_pos (by omega))) (fun _ => ?_)
      refine jr_iload rfl rfl ?_
      refine jr_aload rfl rfl ?_
      refine jr_getI rfl rfl ?_
      rw [show jh_I (ju_I hc 0 0 (upd (jh_I hc 0 0) 4 (jh_I hc 0 0 4 - 1))) 7 r 5 = nI (jz_nd hm b) from hR.2.2.1.trans hw.2.2.1.2.2.1.1]
      refine jr_icmp_ge rfl (fun z => absurd z (nI_ge hmd (by omega))) (fun _ => ?_)
      refine jr_ic rfl ?_
      refine jr_goto rfl ?_
      refine jr_zret rfl rfl rfl (Nat.zero_le _) (Nat.zero_le _) ?_
      refine jr_if_eq rfl (fun z => absurd z (by decide)) (fun _ => ?_)
      refine jr_aload rfl rfl ?_
      refine jr_getR rfl rfl rfl rfl (Or.inl rfl) ?_
      refine jr_getR rfl rfl rfl rfl (Or.inl rfl) ?_
      refine jr_iload rfl rfl ?_
      refine jr_aload rfl rfl ?_
      refine jr_getR rfl rfl rfl rfl (Or.inl rfl) ?_
      refine jr_getR rfl rfl rfl rfl (Or.inl rfl) ?_
      refine jr_iload rfl rfl ?_
      refine jr_zald (len := 12) rfl rfl rfl (by omega) ?_
      refine jr_if_ne rfl (fun c14JVturnForgiven => ?_) (fun c14JVturnForgiven => ?_)
      · refine jr_ic rfl ?_
        refine jr_zast (len := 12) rfl rfl rfl (by omega) ?_
        have es : σ k = upd (jA hm) 36 (jA hm 36 ^^^ ((1 : Int32) <<< (nI m &&& 31))) := jw_x2 (by rw [ea]; exact ha2)
        have hT1 := jy_T_f (jy_A_T hA1) (show m < 12 by omega)
        rw [← es] at hT1
        have hLL' : ∀ j, j < w → jh_I (ju_I hc 0 0 (upd (jh_I hc 0 0) 4 (jh_I hc 0 0 4 - 1))) 31 0 j = σ k (37 + j) := fun j hj => by
          rw [es, jg_un (by omega)]
          refine hL1 j ?_
          have e0 : jA hm 0 = nI w := by rw [← hw2, es, jg_un (by omega)]
          rw [jn_1 e0 (by omega)]; exact hj
        rw [show (if jh_I (ju_I hc 0 0 (upd (jh_I hc 0 0) 4 (jh_I hc 0 0 4 - 1))) 36 0 m = 0 then (1 : Int32) else 0) = 0 from if_neg c14JVturnForgiven] at hT1
        rw [jK_36 hA1]
        refine jr_vret rfl rfl (Nat.zero_le _) (Nat.zero_le _) ?_
        refine jr_goto rfl ?_
        refine jr_ic rfl ?_
        refine jr_zret rfl rfl rfl (Nat.zero_le _) (Nat.zero_le _) ?_
        show jx_W (jm_MD_undo, d + 40, 0, 0, false, 1, _) _ 0 0 0 [some _] [] _
        refine jr_aload rfl rfl ?_
        refine jr_getI rfl rfl ?_
        rw [a4]
        refine jr_if_ne rfl (fun _ => ?_) (fun z => absurd z (nI_ne0 (by omega) (by omega)))
        refine jr_aload rfl rfl ?_
        refine jr_dup_r rfl ?_
        refine jr_getI rfl rfl ?_
        refine jr_ic rfl ?_
        refine jr_isub rfl ?_
        refine jr_putI rfl rfl ?_
        refine jr_aload rfl rfl ?_
        refine jr_dup_r rfl ?_
        refine jr_getI rfl rfl ?_
        refine jr_ic rfl ?_
        refine jr_iadd rfl ?_
        refine jr_putI rfl rfl ?_
        refine jr_aload rfl rfl ?_
        refine jr_cv0 (mc' := 0) (ms' := 0) rfl jm_MD_exchange_n jm_MD_exchange_f rfl rfl rfl rfl rfl rfl rfl (Nat.zero_le _) (Nat.zero_le _) ?_
        simp only [jg_uu, jg_II]
        have f60 : jh_I (ju_I hm 11 0 (upd (upd (jh_I hm 11 0) 60 (jh_I hm 11 0 60 - 1)) 61 (jh_I hm 11 0 61 + 1))) 11 0 60 = nI k := f6
        refine ev_exchange (n := k) f60 (by omega) (fun W A w1 w2 w3 w4 => ?_)
        have hAk : A = σ k := funext (fun q => by
          rcases Nat.lt_or_ge q 337 with z | z
          · exact (w3 q z).trans (s2 k (by omega) q z)
          · exact (w4 q z).trans (s5 k (by omega) q z).symm)
        refine jr_ic rfl ?_
        refine jr_zret rfl rfl rfl (Nat.zero_le _) (Nat.zero_le _) ?_
        refine ⟨rfl, jz_Rel_un (n := k + 1) (u := u) (n' := k) (u' := u + 1) (w' := w) hC0 hTa hFa hLy hTi hLe hBo hWo a1 (by omega) s4 s5 s6 hAk hT1 hw2 hwl hLL' ⟨hF4, a3⟩ f6 ?_ (fun f h1 h2 => (jg_un h2).trans (jg_un h1)) (fun j hj q hq => (w2 _ (by omega)).trans (s2 j (by omega) q hq)) (fun j h1 h2 q hq => ?_)⟩
        · show jh_I hm 11 0 61 + 1 = _
          rw [a5, nI_1]
        · rcases Nat.eq_or_lt_of_le h1 with z | z
          · subst z
            rw [w1 q hq]; exact congrFun ea q
          · exact (w2 _ (by omega)).trans (s3 j (by omega) (by omega) q hq)
      · refine jr_ic rfl ?_
        refine jr_goto rfl ?_
        refine jr_zast (len := 12) rfl rfl rfl (by omega) ?_
        have es : σ k = upd (jA hm) 36 (jA hm 36 ^^^ ((1 : Int32) <<< (nI m &&& 31))) := jw_x2 (by rw [ea]; exact ha2)
        have hT1 := jy_T_f (jy_A_T hA1) (show m < 12 by omega)
        rw [← es] at hT1
        have hLL' : ∀ j, j < w → jh_I (ju_I hc 0 0 (upd (jh_I hc 0 0) 4 (jh_I hc 0 0 4 - 1))) 31 0 j = σ k (37 + j) := fun j hj => by
          rw [es, jg_un (by omega)]
          refine hL1 j ?_
          have e0 : jA hm 0 = nI w := by rw [← hw2, es, jg_un (by omega)]
          rw [jn_1 e0 (by omega)]; exact hj
        rw [show (if jh_I (ju_I hc 0 0 (upd (jh_I hc 0 0) 4 (jh_I hc 0 0 4 - 1))) 36 0 m = 0 then (1 : Int32) else 0) = 1 from if_pos c14JVturnForgiven] at hT1
        rw [jK_36 hA1]
        refine jr_vret rfl rfl (Nat.zero_le _) (Nat.zero_le _) ?_
        refine jr_goto rfl ?_
        refine jr_ic rfl ?_
        refine jr_zret rfl rfl rfl (Nat.zero_le _) (Nat.zero_le _) ?_
        show jx_W (jm_MD_undo, d + 40, 0, 0, false, 1, _) _ 0 0 0 [some _] [] _
        refine jr_aload rfl rfl ?_
        refine jr_getI rfl rfl ?_
        rw [a4]
        refine jr_if_ne rfl (fun _ => ?_) (fun z => absurd z (nI_ne0 (by omega) (by omega)))
        refine jr_aload rfl rfl ?_
        refine jr_dup_r rfl ?_
        refine jr_getI rfl rfl ?_
        refine jr_ic rfl ?_
        refine jr_isub rfl ?_
        refine jr_putI rfl rfl ?_
        refine jr_aload rfl rfl ?_
        refine jr_dup_r rfl ?_
        refine jr_getI rfl rfl ?_
        refine jr_ic rfl ?_
        refine jr_iadd rfl ?_
        refine jr_putI rfl rfl ?_
        refine jr_aload rfl rfl ?_
        refine jr_cv0 (mc' := 0) (ms' := 0) rfl jm_MD_exchange_n jm_MD_exchange_f rfl rfl rfl rfl rfl rfl rfl (Nat.zero_le _) (Nat.zero_le _) ?_
        simp only [jg_uu, jg_II]
        have f60 : jh_I (ju_I hm 11 0 (upd (upd (jh_I hm 11 0) 60 (jh_I hm 11 0 60 - 1)) 61 (jh_I hm 11 0 61 + 1))) 11 0 60 = nI k := f6
        refine ev_exchange (n := k) f60 (by omega) (fun W A w1 w2 w3 w4 => ?_)
        have hAk : A = σ k := funext (fun q => by
          rcases Nat.lt_or_ge q 337 with z | z
          · exact (w3 q z).trans (s2 k (by omega) q z)
          · exact (w4 q z).trans (s5 k (by omega) q z).symm)
        refine jr_ic rfl ?_
        refine jr_zret rfl rfl rfl (Nat.zero_le _) (Nat.zero_le _) ?_
        refine ⟨rfl, jz_Rel_un (n := k + 1) (u := u) (n' := k) (u' := u + 1) (w' := w) hC0 hTa hFa hLy hTi hLe hBo hWo a1 (by omega) s4 s5 s6 hAk hT1 hw2 hwl hLL' ⟨hF4, a3⟩ f6 ?_ (fun f h1 h2 => (jg_un h2).trans (jg_un h1)) (fun j hj q hq => (w2 _ (by omega)).trans (s2 j (by omega) q hq)) (fun j h1 h2 q hq => ?_)⟩
        · show jh_I hm 11 0 61 + 1 = _
          rw [a5, nI_1]
        · rcases Nat.eq_or_lt_of_le h1 with z | z
          · subst z
            rw [w1 q hq]; exact congrFun ea q
          · exact (w2 _ (by omega)).trans (s3 j (by omega) (by omega) q hq)
    · obtain ⟨-, w, hw2, hwl, -, -⟩ := id (s4 k (by omega))
      obtain ⟨hk, m, v, hwh, hmp, hbf, haf, hv9, ha2⟩ := hact
      have ea : jA hm = σ (k + 1) := s1.symm
      have hA1 : jy_A (ju_I hc 0 0 (upd (jh_I hc 0 0) 4 (jh_I hc 0 0 4 - 1))) 0 r (jA hm) := hA
      have hL1 : jy_L (ju_I hc 0 0 (upd (jh_I hc 0 0) 4 (jh_I hc 0 0 4 - 1))) 0 (jA hm) := hL
      show jx_W (jm_JV_undo, d + 40, 0, 0, false, 0, _) _ 0 0 0 [some (jv_r 10 0), none] [] _
      refine jr_aload rfl rfl ?_
      refine jr_getR rfl rfl rfl rfl (Or.inl rfl) ?_
      refine jr_cv0 (mc' := 0) (ms' := 0) rfl jm_Acts_stepBack_n jm_Acts_stepBack_f rfl rfl rfl rfl rfl rfl rfl (Nat.zero_le _) (Nat.zero_le _) ?_
      show jx_W (jm_Acts_stepBack, _, _, _, _, _, _) _ 0 0 0 [some _] [] _
      refine jr_aload rfl rfl ?_
      refine jr_getI rfl rfl ?_
      rw [show jh_I hc 0 0 4 = nI (k + 1) from a2]
      refine jr_if_gt rfl (fun _ => ?_) (fun z => absurd (show (0 : Int32) < nI (k + 1) from nI_lt (a := 0) (b := k + 1) (by omega) (by omega)) z)
      refine jr_aload rfl rfl ?_
      refine jr_dup_r rfl ?_
      refine jr_getI rfl rfl ?_
      refine jr_ic rfl ?_
      refine jr_isub rfl ?_
      refine jr_putI rfl rfl ?_
      refine jr_ic rfl ?_
      refine jr_zret rfl rfl rfl (Nat.zero_le _) (Nat.zero_le _) ?_
      refine jr_if_ne rfl (fun _ => ?_) (fun z => absurd z (by decide))
      refine jr_aload rfl rfl ?_
      refine jr_getR rfl rfl rfl rfl (Or.inl rfl) ?_
      refine jr_getR rfl rfl rfl rfl (Or.inl rfl) ?_
      refine jr_aload rfl rfl ?_
      refine jr_getR rfl rfl rfl rfl (Or.inl rfl) ?_
      refine jr_getI rfl rfl ?_
      refine jr_iald (len := 40) rfl rfl hF4 (by omega) ?_
      rw [show jh_I (ju_I hc 0 0 (upd (jh_I hc 0 0) 4 (jh_I hc 0 0 4 - 1))) 49 0 k = nI m from hwh]
      refine jr_ist1 rfl rfl ?_
      refine jr_aload rfl rfl ?_
      refine jr_getR rfl rfl rfl rfl (Or.inl rfl) ?_
      refine jr_getR rfl rfl rfl rfl (Or.inl rfl) ?_
      refine jr_aload rfl rfl ?_
      refine jr_getR rfl rfl rfl rfl (Or.inl rfl) ?_
      refine jr_getI rfl rfl ?_
      refine jr_iald (len := 40) rfl rfl hF4 (by omega) ?_
      rw [show jh_I (ju_I hc 0 0 (upd (jh_I hc 0 0) 4 (jh_I hc 0 0 4 - 1))) 48 0 k = 3 from hk]
      refine jr_tsw rfl ?_
      refine ⟨fun z => absurd z (by decide), fun _ => ?_⟩
      refine ⟨fun z => absurd z (by decide), fun _ => ?_⟩
      refine ⟨fun z => absurd z (by decide), fun _ => ?_⟩
      refine jr_aload rfl rfl ?_
      refine jr_iload rfl rfl ?_
      refine jr_aload rfl rfl ?_
      refine jr_getR rfl rfl rfl rfl (Or.inl rfl) ?_
      refine jr_getR rfl rfl rfl rfl (Or.inl rfl) ?_
      refine jr_aload rfl rfl ?_
      refine jr_getR rfl rfl rfl rfl (Or.inl rfl) ?_
      refine jr_getI rfl rfl ?_
      refine jr_iald (len := 40) rfl rfl hF4 (by omega) ?_
      refine jr_cv2 (mc' := 0) (ms' := 0) rfl jm_JV_giveVotes_n jm_JV_giveVotes_f rfl rfl rfl rfl rfl rfl rfl (Nat.zero_le _) (Nat.zero_le _) ?_
      show jx_W (jm_JV_giveVotes, _, _, _, _, _, _) _ 0 0 0 [some _, some _, some _] [] _
      refine jr_aload rfl rfl ?_
      refine jr_getM rfl rfl rfl rfl hto ?_
      refine jr_iload rfl rfl ?_
      refine jr_cv1 (mc' := 0) (ms' := 0) rfl jm_Rep_hasPerson_n jm_Rep_hasPerson_f rfl rfl rfl rfl rfl rfl rfl (Nat.zero_le _) (Nat.zero_le _) ?_
      show jx_W (jm_Rep_hasPerson, _, _, _, _, _, _) _ 0 0 0 [some _, some _] [] _
      refine jr_iload rfl rfl ?_
      refine jr_if_lt rfl (fun z => absurd z (nI_pos (by omega))) (fun _ => ?_)
      refine jr_iload rfl rfl ?_
      refine jr_aload rfl rfl ?_
      refine jr_getI rfl rfl ?_
      rw [show jh_I (ju_I hc 0 0 (upd (jh_I hc 0 0) 4 (jh_I hc 0 0 4 - 1))) 7 r 3 = nI (jz_np hm b) from hR.2.1.trans hw.2.2.1.2.1.1]
      refine jr_icmp_ge rfl (fun z => absurd z (nI_ge hmp (by omega))) (fun _ => ?_)
      refine jr_ic rfl ?_
      refine jr_goto rfl ?_
      refine jr_zret rfl rfl rfl (Nat.zero_le _) (Nat.zero_le _) ?_
      refine jr_if_eq rfl (fun z => absurd z (by decide)) (fun _ => ?_)
      refine jr_aload rfl rfl ?_
      refine jr_getR rfl rfl rfl rfl (Or.inl rfl) ?_
      refine jr_getR rfl rfl rfl rfl (Or.inl rfl) ?_
      refine jr_iload rfl rfl ?_
      refine jr_iload rfl rfl ?_
      refine jr_iast (len := 5) rfl rfl rfl (by omega) ?_
      have es : σ k = upd (jA hm) (7 + m) (jh_I (ju_I hc 0 0 (upd (jh_I hc 0 0) 4 (jh_I hc 0 0 4 - 1))) 50 0 k) := (by rw [show (jh_I (ju_I hc 0 0 (upd (jh_I hc 0 0) 4 (jh_I hc 0 0 4 - 1))) 50 0 k) = σ k (7 + m) from hbf]; exact jw_v2 (by rw [ea]; exact ha2))
      have hT1 := jy_T_v (x := (jh_I (ju_I hc 0 0 (upd (jh_I hc 0 0) 4 (jh_I hc 0 0 4 - 1))) 50 0 k)) (jy_A_T hA1) (show m < 5 by omega)
      rw [← es] at hT1
      have hLL' : ∀ j, j < w → jh_I (ju_I hc 0 0 (upd (jh_I hc 0 0) 4 (jh_I hc 0 0 4 - 1))) 31 0 j = σ k (37 + j) := fun j hj => by
        rw [es, jg_un (by omega)]
        refine hL1 j ?_
        have e0 : jA hm 0 = nI w := by rw [← hw2, es, jg_un (by omega)]
        rw [jn_1 e0 (by omega)]; exact hj
      rw [jK_33 hA1]
      refine jr_vret rfl rfl (Nat.zero_le _) (Nat.zero_le _) ?_
      refine jr_ic rfl ?_
      refine jr_zret rfl rfl rfl (Nat.zero_le _) (Nat.zero_le _) ?_
      show jx_W (jm_MD_undo, d + 40, 0, 0, false, 1, _) _ 0 0 0 [some _] [] _
      refine jr_aload rfl rfl ?_
      refine jr_getI rfl rfl ?_
      rw [a4]
      refine jr_if_ne rfl (fun _ => ?_) (fun z => absurd z (nI_ne0 (by omega) (by omega)))
      refine jr_aload rfl rfl ?_
      refine jr_dup_r rfl ?_
      refine jr_getI rfl rfl ?_
      refine jr_ic rfl ?_
      refine jr_isub rfl ?_
      refine jr_putI rfl rfl ?_
      refine jr_aload rfl rfl ?_
      refine jr_dup_r rfl ?_
      refine jr_getI rfl rfl ?_
      refine jr_ic rfl ?_
      refine jr_iadd rfl ?_
      refine jr_putI rfl rfl ?_
      refine jr_aload rfl rfl ?_
      refine jr_cv0 (mc' := 0) (ms' := 0) rfl jm_MD_exchange_n jm_MD_exchange_f rfl rfl rfl rfl rfl rfl rfl (Nat.zero_le _) (Nat.zero_le _) ?_
      simp only [jg_uu, jg_II]
      have f60 : jh_I (ju_I hm 11 0 (upd (upd (jh_I hm 11 0) 60 (jh_I hm 11 0 60 - 1)) 61 (jh_I hm 11 0 61 + 1))) 11 0 60 = nI k := f6
      refine ev_exchange (n := k) f60 (by omega) (fun W A w1 w2 w3 w4 => ?_)
      have hAk : A = σ k := funext (fun q => by
        rcases Nat.lt_or_ge q 337 with z | z
        · exact (w3 q z).trans (s2 k (by omega) q z)
        · exact (w4 q z).trans (s5 k (by omega) q z).symm)
      refine jr_ic rfl ?_
      refine jr_zret rfl rfl rfl (Nat.zero_le _) (Nat.zero_le _) ?_
      refine ⟨rfl, jz_Rel_un (n := k + 1) (u := u) (n' := k) (u' := u + 1) (w' := w) hC0 hTa hFa hLy hTi hLe hBo hWo a1 (by omega) s4 s5 s6 hAk hT1 hw2 hwl hLL' ⟨hF4, a3⟩ f6 ?_ (fun f h1 h2 => (jg_un h2).trans (jg_un h1)) (fun j hj q hq => (w2 _ (by omega)).trans (s2 j (by omega) q hq)) (fun j h1 h2 q hq => ?_)⟩
      · show jh_I hm 11 0 61 + 1 = _
        rw [a5, nI_1]
      · rcases Nat.eq_or_lt_of_le h1 with z | z
        · subst z
          rw [w1 q hq]; exact congrFun ea q
        · exact (w2 _ (by omega)).trans (s3 j (by omega) (by omega) q hq)

set_option maxHeartbeats 800000 in
set_option maxRecDepth 100000 in
theorem pd_redo {d : Nat} {hc hm : jx_H} (hRel : jz_Rel hc hm) : jx_Ev jm_JV_redo (d + 40) 0 0 false 0 [jv_r 10 0] hc (fun r hc' => jx_Ev jm_MD_redo (d + 40) 0 0 false 1 [jv_r 11 0] hm (fun r' hm' => r = r' ∧ jz_Rel hc' hm')) := by
  have hRel0 := hRel
  obtain ⟨b, r, ⟨hw, hG, hr2, hto, hsp, hR, hA, hL⟩, hTa, hFa, hLy, hTi, hLe, hBo, hAc, hWo⟩ := hRel
  have hb2 := hw.2.1
  obtain ⟨n, u, a1, a2, a3, a4, a5, σ, s1, s2, s3, s4, s5, s6⟩ := id hAc
  have hC0 : jz_C hc hm b r := ⟨hw, hG, hr2, hto, hsp, hR, hA, hL⟩
  have hB := jz_W_B hw
  have hnd12 := hw.2.2.1.2.2.1.2
  have hnp5 := hw.2.2.1.2.1.2
  rcases Nat.eq_zero_or_pos u with hu | hu
  · show jx_W (jm_JV_redo, d + 40, 0, 0, false, 0, _) _ 0 0 0 [some (jv_r 10 0), none] [] _
    refine jr_aload rfl rfl ?_
    refine jr_getR rfl rfl rfl rfl (Or.inl rfl) ?_
    refine jr_cv0 (mc' := 0) (ms' := 0) rfl jm_Acts_canStepOn_n jm_Acts_canStepOn_f rfl rfl rfl rfl rfl rfl rfl (Nat.zero_le _) (Nat.zero_le _) ?_
    show jx_W (jm_Acts_canStepOn, _, _, _, _, _, _) _ 0 0 0 [some _] [] _
    refine jr_aload rfl rfl ?_
    refine jr_getI rfl rfl ?_
    refine jr_aload rfl rfl ?_
    refine jr_getI rfl rfl ?_
    rw [a2, a3]
    refine jr_icmp_ge rfl (fun _ => ?_) (fun z => absurd (nI_le (by omega) (by omega)) z)
    refine jr_ic rfl ?_
    refine jr_zret rfl rfl rfl (Nat.zero_le _) (Nat.zero_le _) ?_
    refine jr_if_ne rfl (fun z => absurd (by decide) z) (fun _ => ?_)
    refine jr_ic rfl ?_
    refine jr_zret rfl rfl rfl (Nat.zero_le _) (Nat.zero_le _) ?_
    show jx_W (jm_MD_redo, d + 40, 0, 0, false, 1, _) _ 0 0 0 [some _] [] _
    refine jr_aload rfl rfl ?_
    refine jr_getI rfl rfl ?_
    rw [a5, hu]
    refine jr_if_ne rfl (fun z => absurd rfl z) (fun _ => ?_)
    refine jr_ic rfl ?_
    refine jr_zret rfl rfl rfl (Nat.zero_le _) (Nat.zero_le _) ?_
    exact ⟨rfl, hRel0⟩
  · rcases s6 n (by omega) with hact | hact | hact | hact
    · obtain ⟨-, w, hw2, hwl, -, -⟩ := id (s4 (n + 1) (by omega))
      obtain ⟨hk, m, w0, hwh, hm60, hw0, hle, hmo, ha2⟩ := hact
      have ea : jA hm = σ n := s1.symm
      have hA1 : jy_A hc 0 r (jA hm) := hA
      have hL1 : jy_L hc 0 (jA hm) := hL
      show jx_W (jm_JV_redo, d + 40, 0, 0, false, 0, _) _ 0 0 0 [some (jv_r 10 0), none] [] _
      refine jr_aload rfl rfl ?_
      refine jr_getR rfl rfl rfl rfl (Or.inl rfl) ?_
      refine jr_cv0 (mc' := 0) (ms' := 0) rfl jm_Acts_canStepOn_n jm_Acts_canStepOn_f rfl rfl rfl rfl rfl rfl rfl (Nat.zero_le _) (Nat.zero_le _) ?_
      show jx_W (jm_Acts_canStepOn, _, _, _, _, _, _) _ 0 0 0 [some _] [] _
      refine jr_aload rfl rfl ?_
      refine jr_getI rfl rfl ?_
      refine jr_aload rfl rfl ?_
      refine jr_getI rfl rfl ?_
      rw [a2, a3]
      refine jr_icmp_ge rfl (fun z => absurd z (nI_ge (by omega) (by omega))) (fun _ => ?_)
      refine jr_aload rfl rfl ?_
      refine jr_getI rfl rfl ?_
      refine jr_ic rfl ?_
      rw [a2]
      refine jr_icmp_ge rfl (fun z => absurd z (nI_ge (a := n) (b := 40) (by omega) (by decide))) (fun _ => ?_)
      refine jr_ic rfl ?_
      refine jr_goto rfl ?_
      refine jr_zret rfl rfl rfl (Nat.zero_le _) (Nat.zero_le _) ?_
      refine jr_if_ne rfl (fun _ => ?_) (fun z => absurd z (by decide))
      refine jr_aload rfl rfl ?_
      refine jr_getR rfl rfl rfl rfl (Or.inl rfl) ?_
      refine jr_getR rfl rfl rfl rfl (Or.inl rfl) ?_
      refine jr_aload rfl rfl ?_
      refine jr_getR rfl rfl rfl rfl (Or.inl rfl) ?_
      refine jr_getI rfl rfl ?_
      refine jr_iald (len := 40) rfl rfl a2 (by omega) ?_
      rw [show jh_I hc 49 0 n = nI m from hwh]
      refine jr_ist1 rfl rfl ?_
      refine jr_aload rfl rfl ?_
      refine jr_getR rfl rfl rfl rfl (Or.inl rfl) ?_
      refine jr_getR rfl rfl rfl rfl (Or.inl rfl) ?_
      refine jr_aload rfl rfl ?_
      refine jr_getR rfl rfl rfl rfl (Or.inl rfl) ?_
      refine jr_getI rfl rfl ?_
      refine jr_iald (len := 40) rfl rfl a2 (by omega) ?_
      rw [show jh_I hc 48 0 n = 0 from hk]
      refine jr_tsw rfl ?_
      refine ⟨fun _ => ?_, fun z => absurd (by decide) z⟩
      refine jr_aload rfl rfl ?_
      refine jr_iload rfl rfl ?_
      refine jr_cv1 (mc' := 0) (ms' := 0) rfl jm_JV_letCome_n jm_JV_letCome_f rfl rfl rfl rfl rfl rfl rfl (Nat.zero_le _) (Nat.zero_le _) ?_
      refine eB_letCome hw hmo hR hA hG hL (by rw [ea]; exact hw0) hm60 hle (fun T1 S1 kc1 hT1 hLL => ?_)
      rw [ea, ← ha2] at hT1 hLL
      have hLL' : ∀ j, j < w → T1 31 j = σ (n + 1) (37 + j) := fun j hj => hLL j (by
        have := (jz_G_ru hB hmo (s4 n (by omega)) hw0 hle).2.1
        rw [← ha2] at this
        have := jn_eq (this.symm.trans hw2) (by omega) (by omega); omega)
      refine jr_goto rfl ?_
      refine jr_aload rfl rfl ?_
      refine jr_getR rfl rfl rfl rfl (Or.inl rfl) ?_
      refine jr_cv0 (mc' := 0) (ms' := 0) rfl jm_Acts_stepOn_n jm_Acts_stepOn_f rfl rfl rfl rfl rfl rfl rfl (Nat.zero_le _) (Nat.zero_le _) ?_
      show jx_W (jm_Acts_stepOn, _, _, _, _, _, _) _ 0 0 0 [some _] [] _
      refine jr_aload rfl rfl ?_
      refine jr_dup_r rfl ?_
      refine jr_getI rfl rfl ?_
      refine jr_ic rfl ?_
      refine jr_iadd rfl ?_
      refine jr_putI rfl rfl ?_
      rw [jPK_0]
      refine jr_vret rfl rfl (Nat.zero_le _) (Nat.zero_le _) ?_
      refine jr_ic rfl ?_
      refine jr_zret rfl rfl rfl (Nat.zero_le _) (Nat.zero_le _) ?_
      show jx_W (jm_MD_redo, d + 40, 0, 0, false, 1, _) _ 0 0 0 [some _] [] _
      refine jr_aload rfl rfl ?_
      refine jr_getI rfl rfl ?_
      rw [a5]
      refine jr_if_ne rfl (fun _ => ?_) (fun z => absurd z (nI_ne0 (by omega) (by omega)))
      refine jr_aload rfl rfl ?_
      refine jr_cv0 (mc' := 0) (ms' := 0) rfl jm_MD_exchange_n jm_MD_exchange_f rfl rfl rfl rfl rfl rfl rfl (Nat.zero_le _) (Nat.zero_le _) ?_
      refine ev_exchange (n := n) a4 (by omega) (fun W A w1 w2 w3 w4 => ?_)
      have hAk : A = σ (n + 1) := funext (fun q => by
        rcases Nat.lt_or_ge q 337 with z | z
        · exact (w3 q z).trans (s3 n (by omega) (by omega) q z)
        · exact (w4 q z).trans (s5 (n + 1) (by omega) q z).symm)
      refine jr_aload rfl rfl ?_
      refine jr_dup_r rfl ?_
      refine jr_getI rfl rfl ?_
      refine jr_ic rfl ?_
      refine jr_iadd rfl ?_
      refine jr_putI rfl rfl ?_
      refine jr_aload rfl rfl ?_
      refine jr_dup_r rfl ?_
      refine jr_getI rfl rfl ?_
      refine jr_ic rfl ?_
      refine jr_isub rfl ?_
      refine jr_putI rfl rfl ?_
      refine jr_ic rfl ?_
      refine jr_zret rfl rfl rfl (Nat.zero_le _) (Nat.zero_le _) ?_
      refine ⟨rfl, ?_⟩
      simp only [jg_uu, jg_II]
      rw [jg_com (k := 98) (i := 0) (k' := 11) (i' := 0) _ _ _ (fun z => absurd z.1 (by decide)), jg_com (k := 103) (i := 0) (k' := 11) (i' := 0) _ _ _ (fun z => absurd z.1 (by decide))]
      refine jz_Rel_un (n := n) (u := u) (n' := n + 1) (u' := u - 1) (w' := w) hC0 hTa hFa hLy hTi hLe hBo hWo a1 (by omega) s4 s5 s6 hAk hT1 hw2 hwl hLL' ⟨?_, a3⟩ ?_ ?_ (fun f h1 h2 => (jg_un h2).trans (jg_un h1)) (fun j hj q hq => ?_) (fun j h1 h2 q hq => (w2 _ (by omega)).trans (s3 j (by omega) (by omega) q hq))
      · show jh_I hc 0 0 4 + 1 = _
        rw [a2, nI_1]
      · show jh_I hm 11 0 60 + 1 = _
        rw [a4, nI_1]
      · show jh_I hm 11 0 61 - 1 = _
        rw [a5]
        obtain ⟨u1, rfl⟩ : ∃ u1, u = u1 + 1 := ⟨u - 1, by omega⟩
        exact nI_pred _
      · rcases Nat.lt_succ_iff_lt_or_eq.mp hj with z | z
        · exact (w2 _ (by omega)).trans (s2 j z q hq)
        · subst z
          rw [w1 q hq]; exact congrFun ea q
    · obtain ⟨-, w, hw2, hwl, -, -⟩ := id (s4 (n + 1) (by omega))
      obtain ⟨hk, hmo, m, w0, hwh, hm31, hw0, hle, ha2⟩ := hact
      have ea : jA hm = σ n := s1.symm
      have hA1 : jy_A hc 0 r (jA hm) := hA
      have hL1 : jy_L hc 0 (jA hm) := hL
      show jx_W (jm_JV_redo, d + 40, 0, 0, false, 0, _) _ 0 0 0 [some (jv_r 10 0), none] [] _
      refine jr_aload rfl rfl ?_
      refine jr_getR rfl rfl rfl rfl (Or.inl rfl) ?_
      refine jr_cv0 (mc' := 0) (ms' := 0) rfl jm_Acts_canStepOn_n jm_Acts_canStepOn_f rfl rfl rfl rfl rfl rfl rfl (Nat.zero_le _) (Nat.zero_le _) ?_
      show jx_W (jm_Acts_canStepOn, _, _, _, _, _, _) _ 0 0 0 [some _] [] _
      refine jr_aload rfl rfl ?_
      refine jr_getI rfl rfl ?_
      refine jr_aload rfl rfl ?_
      refine jr_getI rfl rfl ?_
      rw [a2, a3]
      refine jr_icmp_ge rfl (fun z => absurd z (nI_ge (by omega) (by omega))) (fun _ => ?_)
      refine jr_aload rfl rfl ?_
      refine jr_getI rfl rfl ?_
      refine jr_ic rfl ?_
      rw [a2]
      refine jr_icmp_ge rfl (fun z => absurd z (nI_ge (a := n) (b := 40) (by omega) (by decide))) (fun _ => ?_)
      refine jr_ic rfl ?_
      refine jr_goto rfl ?_
      refine jr_zret rfl rfl rfl (Nat.zero_le _) (Nat.zero_le _) ?_
      refine jr_if_ne rfl (fun _ => ?_) (fun z => absurd z (by decide))
      refine jr_aload rfl rfl ?_
      refine jr_getR rfl rfl rfl rfl (Or.inl rfl) ?_
      refine jr_getR rfl rfl rfl rfl (Or.inl rfl) ?_
      refine jr_aload rfl rfl ?_
      refine jr_getR rfl rfl rfl rfl (Or.inl rfl) ?_
      refine jr_getI rfl rfl ?_
      refine jr_iald (len := 40) rfl rfl a2 (by omega) ?_
      rw [show jh_I hc 49 0 n = nI m from hwh]
      refine jr_ist1 rfl rfl ?_
      refine jr_aload rfl rfl ?_
      refine jr_getR rfl rfl rfl rfl (Or.inl rfl) ?_
      refine jr_getR rfl rfl rfl rfl (Or.inl rfl) ?_
      refine jr_aload rfl rfl ?_
      refine jr_getR rfl rfl rfl rfl (Or.inl rfl) ?_
      refine jr_getI rfl rfl ?_
      refine jr_iald (len := 40) rfl rfl a2 (by omega) ?_
      rw [show jh_I hc 48 0 n = 1 from hk]
      refine jr_tsw rfl ?_
      refine ⟨fun z => absurd z (by decide), fun _ => ?_⟩
      refine ⟨fun _ => ?_, fun z => absurd (by decide) z⟩
      refine jr_aload rfl rfl ?_
      refine jr_getR rfl rfl rfl rfl (Or.inl rfl) ?_
      refine jr_iload rfl rfl ?_
      refine jr_cv1 (mc' := 0) (ms' := 0) rfl jm_Cal_comes_n jm_Cal_comes_f rfl rfl rfl rfl rfl rfl rfl (Nat.zero_le _) (Nat.zero_le _) ?_
      refine eB_comes0 hw hmo hR hA hG hL (by rw [ea]; exact hw0) hm31 hle (fun T1 S1 kc1 hT1 hLL => ?_)
      rw [ea, ← ha2] at hT1 hLL
      have hLL' : ∀ j, j < w → T1 31 j = σ (n + 1) (37 + j) := fun j hj => hLL j (by
        have := (jz_G_re hB.2.2 hmo (s4 n (by omega)) hw0 hle hm31).2.1
        rw [← ha2] at this
        have := jn_eq (this.symm.trans hw2) (by omega) (by omega); omega)
      refine jr_goto rfl ?_
      refine jr_aload rfl rfl ?_
      refine jr_getR rfl rfl rfl rfl (Or.inl rfl) ?_
      refine jr_cv0 (mc' := 0) (ms' := 0) rfl jm_Acts_stepOn_n jm_Acts_stepOn_f rfl rfl rfl rfl rfl rfl rfl (Nat.zero_le _) (Nat.zero_le _) ?_
      show jx_W (jm_Acts_stepOn, _, _, _, _, _, _) _ 0 0 0 [some _] [] _
      refine jr_aload rfl rfl ?_
      refine jr_dup_r rfl ?_
      refine jr_getI rfl rfl ?_
      refine jr_ic rfl ?_
      refine jr_iadd rfl ?_
      refine jr_putI rfl rfl ?_
      rw [jPK_0]
      refine jr_vret rfl rfl (Nat.zero_le _) (Nat.zero_le _) ?_
      refine jr_ic rfl ?_
      refine jr_zret rfl rfl rfl (Nat.zero_le _) (Nat.zero_le _) ?_
      show jx_W (jm_MD_redo, d + 40, 0, 0, false, 1, _) _ 0 0 0 [some _] [] _
      refine jr_aload rfl rfl ?_
      refine jr_getI rfl rfl ?_
      rw [a5]
      refine jr_if_ne rfl (fun _ => ?_) (fun z => absurd z (nI_ne0 (by omega) (by omega)))
      refine jr_aload rfl rfl ?_
      refine jr_cv0 (mc' := 0) (ms' := 0) rfl jm_MD_exchange_n jm_MD_exchange_f rfl rfl rfl rfl rfl rfl rfl (Nat.zero_le _) (Nat.zero_le _) ?_
      refine ev_exchange (n := n) a4 (by omega) (fun W A w1 w2 w3 w4 => ?_)
      have hAk : A = σ (n + 1) := funext (fun q => by
        rcases Nat.lt_or_ge q 337 with z | z
        · exact (w3 q z).trans (s3 n (by omega) (by omega) q z)
        · exact (w4 q z).trans (s5 (n + 1) (by omega) q z).symm)
      refine jr_aload rfl rfl ?_
      refine jr_dup_r rfl ?_
      refine jr_getI rfl rfl ?_
      refine jr_ic rfl ?_
      refine jr_iadd rfl ?_
      refine jr_putI rfl rfl ?_
      refine jr_aload rfl rfl ?_
      refine jr_dup_r rfl ?_
      refine jr_getI rfl rfl ?_
      refine jr_ic rfl ?_
      refine jr_isub rfl ?_
      refine jr_putI rfl rfl ?_
      refine jr_ic rfl ?_
      refine jr_zret rfl rfl rfl (Nat.zero_le _) (Nat.zero_le _) ?_
      refine ⟨rfl, ?_⟩
      simp only [jg_uu, jg_II]
      rw [jg_com (k := 98) (i := 0) (k' := 11) (i' := 0) _ _ _ (fun z => absurd z.1 (by decide)), jg_com (k := 103) (i := 0) (k' := 11) (i' := 0) _ _ _ (fun z => absurd z.1 (by decide))]
      refine jz_Rel_un (n := n) (u := u) (n' := n + 1) (u' := u - 1) (w' := w) hC0 hTa hFa hLy hTi hLe hBo hWo a1 (by omega) s4 s5 s6 hAk hT1 hw2 hwl hLL' ⟨?_, a3⟩ ?_ ?_ (fun f h1 h2 => (jg_un h2).trans (jg_un h1)) (fun j hj q hq => ?_) (fun j h1 h2 q hq => (w2 _ (by omega)).trans (s3 j (by omega) (by omega) q hq))
      · show jh_I hc 0 0 4 + 1 = _
        rw [a2, nI_1]
      · show jh_I hm 11 0 60 + 1 = _
        rw [a4, nI_1]
      · show jh_I hm 11 0 61 - 1 = _
        rw [a5]
        obtain ⟨u1, rfl⟩ : ∃ u1, u = u1 + 1 := ⟨u - 1, by omega⟩
        exact nI_pred _
      · rcases Nat.lt_succ_iff_lt_or_eq.mp hj with z | z
        · exact (w2 _ (by omega)).trans (s2 j z q hq)
        · subst z
          rw [w1 q hq]; exact congrFun ea q
    · obtain ⟨-, w, hw2, hwl, -, -⟩ := id (s4 (n + 1) (by omega))
      obtain ⟨hk, m, hwh, hmd, ha2⟩ := hact
      have ea : jA hm = σ n := s1.symm
      have hA1 : jy_A hc 0 r (jA hm) := hA
      have hL1 : jy_L hc 0 (jA hm) := hL
      show jx_W (jm_JV_redo, d + 40, 0, 0, false, 0, _) _ 0 0 0 [some (jv_r 10 0), none] [] _
      refine jr_aload rfl rfl ?_
      refine jr_getR rfl rfl rfl rfl (Or.inl rfl) ?_
      refine jr_cv0 (mc' := 0) (ms' := 0) rfl jm_Acts_canStepOn_n jm_Acts_canStepOn_f rfl rfl rfl rfl rfl rfl rfl (Nat.zero_le _) (Nat.zero_le _) ?_
      show jx_W (jm_Acts_canStepOn, _, _, _, _, _, _) _ 0 0 0 [some _] [] _
      refine jr_aload rfl rfl ?_
      refine jr_getI rfl rfl ?_
      refine jr_aload rfl rfl ?_
      refine jr_getI rfl rfl ?_
      rw [a2, a3]
      refine jr_icmp_ge rfl (fun z => absurd z (nI_ge (by omega) (by omega))) (fun _ => ?_)
      refine jr_aload rfl rfl ?_
      refine jr_getI rfl rfl ?_
      refine jr_ic rfl ?_
      rw [a2]
      refine jr_icmp_ge rfl (fun z => absurd z (nI_ge (a := n) (b := 40) (by omega) (by decide))) (fun _ => ?_)
      refine jr_ic rfl ?_
      refine jr_goto rfl ?_
      refine jr_zret rfl rfl rfl (Nat.zero_le _) (Nat.zero_le _) ?_
      refine jr_if_ne rfl (fun _ => ?_) (fun z => absurd z (by decide))
      refine jr_aload rfl rfl ?_
      refine jr_getR rfl rfl rfl rfl (Or.inl rfl) ?_
      refine jr_getR rfl rfl rfl rfl (Or.inl rfl) ?_
      refine jr_aload rfl rfl ?_
      refine jr_getR rfl rfl rfl rfl (Or.inl rfl) ?_
      refine jr_getI rfl rfl ?_
      refine jr_iald (len := 40) rfl rfl a2 (by omega) ?_
      rw [show jh_I hc 49 0 n = nI m from hwh]
      refine jr_ist1 rfl rfl ?_
      refine jr_aload rfl rfl ?_
      refine jr_getR rfl rfl rfl rfl (Or.inl rfl) ?_
      refine jr_getR rfl rfl rfl rfl (Or.inl rfl) ?_
      refine jr_aload rfl rfl ?_
      refine jr_getR rfl rfl rfl rfl (Or.inl rfl) ?_
      refine jr_getI rfl rfl ?_
      refine jr_iald (len := 40) rfl rfl a2 (by omega) ?_
      rw [show jh_I hc 48 0 n = 2 from hk]
      refine jr_tsw rfl ?_
      refine ⟨fun z => absurd z (by decide), fun _ => ?_⟩
      refine ⟨fun z => absurd z (by decide), fun _ => ?_⟩
      refine ⟨fun _ => ?_, fun z => absurd (by decide) z⟩
      refine jr_aload rfl rfl ?_
      refine jr_iload rfl rfl ?_
      refine jr_cv1 (mc' := 0) (ms' := 0) rfl jm_JV_turnForgiven_n jm_JV_turnForgiven_f rfl rfl rfl rfl rfl rfl rfl (Nat.zero_le _) (Nat.zero_le _) ?_
      show jx_W (jm_JV_turnForgiven, _, _, _, _, _, _) _ 0 0 0 [some _, some _] [] _
      refine jr_aload rfl rfl ?_
      refine jr_getM rfl rfl rfl rfl hto ?_
      refine jr_iload rfl rfl ?_
      refine jr_cv1 (mc' := 0) (ms' := 0) rfl jm_Rep_hasDue_n jm_Rep_hasDue_f rfl rfl rfl rfl rfl rfl rfl (Nat.zero_le _) (Nat.zero_le _) ?_
      show jx_W (jm_Rep_hasDue, _, _, _, _, _, _) _ 0 0 0 [some _, some _] [] _
      refine jr_iload rfl rfl ?_
      refine jr_if_lt rfl (fun z => absurd z (nI_pos (by omega))) (fun _ => ?_)
      refine jr_iload rfl rfl ?_
      refine jr_aload rfl rfl ?_
      refine jr_getI rfl rfl ?_
      rw [show jh_I hc 7 r 5 = nI (jz_nd hm b) from hR.2.2.1.trans hw.2.2.1.2.2.1.1]
      refine jr_icmp_ge rfl (fun z => absurd z (nI_ge hmd (by omega))) (fun _ => ?_)
      refine jr_ic rfl ?_
      refine jr_goto rfl ?_
      refine jr_zret rfl rfl rfl (Nat.zero_le _) (Nat.zero_le _) ?_
      refine jr_if_eq rfl (fun z => absurd z (by decide)) (fun _ => ?_)
      refine jr_aload rfl rfl ?_
      refine jr_getR rfl rfl rfl rfl (Or.inl rfl) ?_
      refine jr_getR rfl rfl rfl rfl (Or.inl rfl) ?_
      refine jr_iload rfl rfl ?_
      refine jr_aload rfl rfl ?_
      refine jr_getR rfl rfl rfl rfl (Or.inl rfl) ?_
      refine jr_getR rfl rfl rfl rfl (Or.inl rfl) ?_
      refine jr_iload rfl rfl ?_
      refine jr_zald (len := 12) rfl rfl rfl (by omega) ?_
      refine jr_if_ne rfl (fun c14JVturnForgiven => ?_) (fun c14JVturnForgiven => ?_)
      · refine jr_ic rfl ?_
        refine jr_zast (len := 12) rfl rfl rfl (by omega) ?_
        have es : σ (n + 1) = upd (jA hm) 36 (jA hm 36 ^^^ ((1 : Int32) <<< (nI m &&& 31))) := by rw [ea]; exact ha2
        have hT1 := jy_T_f (jy_A_T hA1) (show m < 12 by omega)
        rw [← es] at hT1
        have hLL' : ∀ j, j < w → jh_I hc 31 0 j = σ (n + 1) (37 + j) := fun j hj => by
          rw [es, jg_un (by omega)]
          refine hL1 j ?_
          have e0 : jA hm 0 = nI w := by rw [← hw2, es, jg_un (by omega)]
          rw [jn_1 e0 (by omega)]; exact hj
        rw [show (if jh_I hc 36 0 m = 0 then (1 : Int32) else 0) = 0 from if_neg c14JVturnForgiven] at hT1
        rw [jK_36 hA1]
        refine jr_vret rfl rfl (Nat.zero_le _) (Nat.zero_le _) ?_
        refine jr_goto rfl ?_
        refine jr_aload rfl rfl ?_
        refine jr_getR rfl rfl rfl rfl (Or.inl rfl) ?_
        refine jr_cv0 (mc' := 0) (ms' := 0) rfl jm_Acts_stepOn_n jm_Acts_stepOn_f rfl rfl rfl rfl rfl rfl rfl (Nat.zero_le _) (Nat.zero_le _) ?_
        show jx_W (jm_Acts_stepOn, _, _, _, _, _, _) _ 0 0 0 [some _] [] _
        refine jr_aload rfl rfl ?_
        refine jr_dup_r rfl ?_
        refine jr_getI rfl rfl ?_
        refine jr_ic rfl ?_
        refine jr_iadd rfl ?_
        refine jr_putI rfl rfl ?_
        rw [jPK_0]
        refine jr_vret rfl rfl (Nat.zero_le _) (Nat.zero_le _) ?_
        refine jr_ic rfl ?_
        refine jr_zret rfl rfl rfl (Nat.zero_le _) (Nat.zero_le _) ?_
        show jx_W (jm_MD_redo, d + 40, 0, 0, false, 1, _) _ 0 0 0 [some _] [] _
        refine jr_aload rfl rfl ?_
        refine jr_getI rfl rfl ?_
        rw [a5]
        refine jr_if_ne rfl (fun _ => ?_) (fun z => absurd z (nI_ne0 (by omega) (by omega)))
        refine jr_aload rfl rfl ?_
        refine jr_cv0 (mc' := 0) (ms' := 0) rfl jm_MD_exchange_n jm_MD_exchange_f rfl rfl rfl rfl rfl rfl rfl (Nat.zero_le _) (Nat.zero_le _) ?_
        refine ev_exchange (n := n) a4 (by omega) (fun W A w1 w2 w3 w4 => ?_)
        have hAk : A = σ (n + 1) := funext (fun q => by
          rcases Nat.lt_or_ge q 337 with z | z
          · exact (w3 q z).trans (s3 n (by omega) (by omega) q z)
          · exact (w4 q z).trans (s5 (n + 1) (by omega) q z).symm)
        refine jr_aload rfl rfl ?_
        refine jr_dup_r rfl ?_
        refine jr_getI rfl rfl ?_
        refine jr_ic rfl ?_
        refine jr_iadd rfl ?_
        refine jr_putI rfl rfl ?_
        refine jr_aload rfl rfl ?_
        refine jr_dup_r rfl ?_
        refine jr_getI rfl rfl ?_
        refine jr_ic rfl ?_
        refine jr_isub rfl ?_
        refine jr_putI rfl rfl ?_
        refine jr_ic rfl ?_
        refine jr_zret rfl rfl rfl (Nat.zero_le _) (Nat.zero_le _) ?_
        refine ⟨rfl, ?_⟩
        simp only [jg_uu, jg_II]
        rw [jg_com (k := 98) (i := 0) (k' := 11) (i' := 0) _ _ _ (fun z => absurd z.1 (by decide)), jg_com (k := 103) (i := 0) (k' := 11) (i' := 0) _ _ _ (fun z => absurd z.1 (by decide))]
        refine jz_Rel_un (n := n) (u := u) (n' := n + 1) (u' := u - 1) (w' := w) hC0 hTa hFa hLy hTi hLe hBo hWo a1 (by omega) s4 s5 s6 hAk hT1 hw2 hwl hLL' ⟨?_, a3⟩ ?_ ?_ (fun f h1 h2 => (jg_un h2).trans (jg_un h1)) (fun j hj q hq => ?_) (fun j h1 h2 q hq => (w2 _ (by omega)).trans (s3 j (by omega) (by omega) q hq))
        · show jh_I hc 0 0 4 + 1 = _
          rw [a2, nI_1]
        · show jh_I hm 11 0 60 + 1 = _
          rw [a4, nI_1]
        · show jh_I hm 11 0 61 - 1 = _
          rw [a5]
          obtain ⟨u1, rfl⟩ : ∃ u1, u = u1 + 1 := ⟨u - 1, by omega⟩
          exact nI_pred _
        · rcases Nat.lt_succ_iff_lt_or_eq.mp hj with z | z
          · exact (w2 _ (by omega)).trans (s2 j z q hq)
          · subst z
            rw [w1 q hq]; exact congrFun ea q
      · refine jr_ic rfl ?_
        refine jr_goto rfl ?_
        refine jr_zast (len := 12) rfl rfl rfl (by omega) ?_
        have es : σ (n + 1) = upd (jA hm) 36 (jA hm 36 ^^^ ((1 : Int32) <<< (nI m &&& 31))) := by rw [ea]; exact ha2
        have hT1 := jy_T_f (jy_A_T hA1) (show m < 12 by omega)
        rw [← es] at hT1
        have hLL' : ∀ j, j < w → jh_I hc 31 0 j = σ (n + 1) (37 + j) := fun j hj => by
          rw [es, jg_un (by omega)]
          refine hL1 j ?_
          have e0 : jA hm 0 = nI w := by rw [← hw2, es, jg_un (by omega)]
          rw [jn_1 e0 (by omega)]; exact hj
        rw [show (if jh_I hc 36 0 m = 0 then (1 : Int32) else 0) = 1 from if_pos c14JVturnForgiven] at hT1
        rw [jK_36 hA1]
        refine jr_vret rfl rfl (Nat.zero_le _) (Nat.zero_le _) ?_
        refine jr_goto rfl ?_
        refine jr_aload rfl rfl ?_
        refine jr_getR rfl rfl rfl rfl (Or.inl rfl) ?_
        refine jr_cv0 (mc' := 0) (ms' := 0) rfl jm_Acts_stepOn_n jm_Acts_stepOn_f rfl rfl rfl rfl rfl rfl rfl (Nat.zero_le _) (Nat.zero_le _) ?_
        show jx_W (jm_Acts_stepOn, _, _, _, _, _, _) _ 0 0 0 [some _] [] _
        refine jr_aload rfl rfl ?_
        refine jr_dup_r rfl ?_
        refine jr_getI rfl rfl ?_
        refine jr_ic rfl ?_
        refine jr_iadd rfl ?_
        refine jr_putI rfl rfl ?_
        rw [jPK_0]
        refine jr_vret rfl rfl (Nat.zero_le _) (Nat.zero_le _) ?_
        refine jr_ic rfl ?_
        refine jr_zret rfl rfl rfl (Nat.zero_le _) (Nat.zero_le _) ?_
        show jx_W (jm_MD_redo, d + 40, 0, 0, false, 1, _) _ 0 0 0 [some _] [] _
        refine jr_aload rfl rfl ?_
        refine jr_getI rfl rfl ?_
        rw [a5]
        refine jr_if_ne rfl (fun _ => ?_) (fun z => absurd z (nI_ne0 (by omega) (by omega)))
        refine jr_aload rfl rfl ?_
        refine jr_cv0 (mc' := 0) (ms' := 0) rfl jm_MD_exchange_n jm_MD_exchange_f rfl rfl rfl rfl rfl rfl rfl (Nat.zero_le _) (Nat.zero_le _) ?_
        refine ev_exchange (n := n) a4 (by omega) (fun W A w1 w2 w3 w4 => ?_)
        have hAk : A = σ (n + 1) := funext (fun q => by
          rcases Nat.lt_or_ge q 337 with z | z
          · exact (w3 q z).trans (s3 n (by omega) (by omega) q z)
          · exact (w4 q z).trans (s5 (n + 1) (by omega) q z).symm)
        refine jr_aload rfl rfl ?_
        refine jr_dup_r rfl ?_
        refine jr_getI rfl rfl ?_
        refine jr_ic rfl ?_
        refine jr_iadd rfl ?_
        refine jr_putI rfl rfl ?_
        refine jr_aload rfl rfl ?_
        refine jr_dup_r rfl ?_
        refine jr_getI rfl rfl ?_
        refine jr_ic rfl ?_
        refine jr_isub rfl ?_
        refine jr_putI rfl rfl ?_
        refine jr_ic rfl ?_
        refine jr_zret rfl rfl rfl (Nat.zero_le _) (Nat.zero_le _) ?_
        refine ⟨rfl, ?_⟩
        simp only [jg_uu, jg_II]
        rw [jg_com (k := 98) (i := 0) (k' := 11) (i' := 0) _ _ _ (fun z => absurd z.1 (by decide)), jg_com (k := 103) (i := 0) (k' := 11) (i' := 0) _ _ _ (fun z => absurd z.1 (by decide))]
        refine jz_Rel_un (n := n) (u := u) (n' := n + 1) (u' := u - 1) (w' := w) hC0 hTa hFa hLy hTi hLe hBo hWo a1 (by omega) s4 s5 s6 hAk hT1 hw2 hwl hLL' ⟨?_, a3⟩ ?_ ?_ (fun f h1 h2 => (jg_un h2).trans (jg_un h1)) (fun j hj q hq => ?_) (fun j h1 h2 q hq => (w2 _ (by omega)).trans (s3 j (by omega) (by omega) q hq))
        · show jh_I hc 0 0 4 + 1 = _
          rw [a2, nI_1]
        · show jh_I hm 11 0 60 + 1 = _
          rw [a4, nI_1]
        · show jh_I hm 11 0 61 - 1 = _
          rw [a5]
          obtain ⟨u1, rfl⟩ : ∃ u1, u = u1 + 1 := ⟨u - 1, by omega⟩
          exact nI_pred _
        · rcases Nat.lt_succ_iff_lt_or_eq.mp hj with z | z
          · exact (w2 _ (by omega)).trans (s2 j z q hq)
          · subst z
            rw [w1 q hq]; exact congrFun ea q
    · obtain ⟨-, w, hw2, hwl, -, -⟩ := id (s4 (n + 1) (by omega))
      obtain ⟨hk, m, v, hwh, hmp, hbf, haf, hv9, ha2⟩ := hact
      have ea : jA hm = σ n := s1.symm
      have hA1 : jy_A hc 0 r (jA hm) := hA
      have hL1 : jy_L hc 0 (jA hm) := hL
      show jx_W (jm_JV_redo, d + 40, 0, 0, false, 0, _) _ 0 0 0 [some (jv_r 10 0), none] [] _
      refine jr_aload rfl rfl ?_
      refine jr_getR rfl rfl rfl rfl (Or.inl rfl) ?_
      refine jr_cv0 (mc' := 0) (ms' := 0) rfl jm_Acts_canStepOn_n jm_Acts_canStepOn_f rfl rfl rfl rfl rfl rfl rfl (Nat.zero_le _) (Nat.zero_le _) ?_
      show jx_W (jm_Acts_canStepOn, _, _, _, _, _, _) _ 0 0 0 [some _] [] _
      refine jr_aload rfl rfl ?_
      refine jr_getI rfl rfl ?_
      refine jr_aload rfl rfl ?_
      refine jr_getI rfl rfl ?_
      rw [a2, a3]
      refine jr_icmp_ge rfl (fun z => absurd z (nI_ge (by omega) (by omega))) (fun _ => ?_)
      refine jr_aload rfl rfl ?_
      refine jr_getI rfl rfl ?_
      refine jr_ic rfl ?_
      rw [a2]
      refine jr_icmp_ge rfl (fun z => absurd z (nI_ge (a := n) (b := 40) (by omega) (by decide))) (fun _ => ?_)
      refine jr_ic rfl ?_
      refine jr_goto rfl ?_
      refine jr_zret rfl rfl rfl (Nat.zero_le _) (Nat.zero_le _) ?_
      refine jr_if_ne rfl (fun _ => ?_) (fun z => absurd z (by decide))
      refine jr_aload rfl rfl ?_
      refine jr_getR rfl rfl rfl rfl (Or.inl rfl) ?_
      refine jr_getR rfl rfl rfl rfl (Or.inl rfl) ?_
      refine jr_aload rfl rfl ?_
      refine jr_getR rfl rfl rfl rfl (Or.inl rfl) ?_
      refine jr_getI rfl rfl ?_
      refine jr_iald (len := 40) rfl rfl a2 (by omega) ?_
      rw [show jh_I hc 49 0 n = nI m from hwh]
      refine jr_ist1 rfl rfl ?_
      refine jr_aload rfl rfl ?_
      refine jr_getR rfl rfl rfl rfl (Or.inl rfl) ?_
      refine jr_getR rfl rfl rfl rfl (Or.inl rfl) ?_
      refine jr_aload rfl rfl ?_
      refine jr_getR rfl rfl rfl rfl (Or.inl rfl) ?_
      refine jr_getI rfl rfl ?_
      refine jr_iald (len := 40) rfl rfl a2 (by omega) ?_
      rw [show jh_I hc 48 0 n = 3 from hk]
      refine jr_tsw rfl ?_
      refine ⟨fun z => absurd z (by decide), fun _ => ?_⟩
      refine ⟨fun z => absurd z (by decide), fun _ => ?_⟩
      refine ⟨fun z => absurd z (by decide), fun _ => ?_⟩
      refine jr_aload rfl rfl ?_
      refine jr_iload rfl rfl ?_
      refine jr_aload rfl rfl ?_
      refine jr_getR rfl rfl rfl rfl (Or.inl rfl) ?_
      refine jr_getR rfl rfl rfl rfl (Or.inl rfl) ?_
      refine jr_aload rfl rfl ?_
      refine jr_getR rfl rfl rfl rfl (Or.inl rfl) ?_
      refine jr_getI rfl rfl ?_
      refine jr_iald (len := 40) rfl rfl a2 (by omega) ?_
      refine jr_cv2 (mc' := 0) (ms' := 0) rfl jm_JV_giveVotes_n jm_JV_giveVotes_f rfl rfl rfl rfl rfl rfl rfl (Nat.zero_le _) (Nat.zero_le _) ?_
      show jx_W (jm_JV_giveVotes, _, _, _, _, _, _) _ 0 0 0 [some _, some _, some _] [] _
      refine jr_aload rfl rfl ?_
      refine jr_getM rfl rfl rfl rfl hto ?_
      refine jr_iload rfl rfl ?_
      refine jr_cv1 (mc' := 0) (ms' := 0) rfl jm_Rep_hasPerson_n jm_Rep_hasPerson_f rfl rfl rfl rfl rfl rfl rfl (Nat.zero_le _) (Nat.zero_le _) ?_
      show jx_W (jm_Rep_hasPerson, _, _, _, _, _, _) _ 0 0 0 [some _, some _] [] _
      refine jr_iload rfl rfl ?_
      refine jr_if_lt rfl (fun z => absurd z (nI_pos (by omega))) (fun _ => ?_)
      refine jr_iload rfl rfl ?_
      refine jr_aload rfl rfl ?_
      refine jr_getI rfl rfl ?_
      rw [show jh_I hc 7 r 3 = nI (jz_np hm b) from hR.2.1.trans hw.2.2.1.2.1.1]
      refine jr_icmp_ge rfl (fun z => absurd z (nI_ge hmp (by omega))) (fun _ => ?_)
      refine jr_ic rfl ?_
      refine jr_goto rfl ?_
      refine jr_zret rfl rfl rfl (Nat.zero_le _) (Nat.zero_le _) ?_
      refine jr_if_eq rfl (fun z => absurd z (by decide)) (fun _ => ?_)
      refine jr_aload rfl rfl ?_
      refine jr_getR rfl rfl rfl rfl (Or.inl rfl) ?_
      refine jr_getR rfl rfl rfl rfl (Or.inl rfl) ?_
      refine jr_iload rfl rfl ?_
      refine jr_iload rfl rfl ?_
      refine jr_iast (len := 5) rfl rfl rfl (by omega) ?_
      have es : σ (n + 1) = upd (jA hm) (7 + m) (jh_I hc 51 0 n) := (by rw [ea, show (jh_I hc 51 0 n) = nI v from haf]; exact ha2)
      have hT1 := jy_T_v (x := (jh_I hc 51 0 n)) (jy_A_T hA1) (show m < 5 by omega)
      rw [← es] at hT1
      have hLL' : ∀ j, j < w → jh_I hc 31 0 j = σ (n + 1) (37 + j) := fun j hj => by
        rw [es, jg_un (by omega)]
        refine hL1 j ?_
        have e0 : jA hm 0 = nI w := by rw [← hw2, es, jg_un (by omega)]
        rw [jn_1 e0 (by omega)]; exact hj
      rw [jK_33 hA1]
      refine jr_vret rfl rfl (Nat.zero_le _) (Nat.zero_le _) ?_
      refine jr_aload rfl rfl ?_
      refine jr_getR rfl rfl rfl rfl (Or.inl rfl) ?_
      refine jr_cv0 (mc' := 0) (ms' := 0) rfl jm_Acts_stepOn_n jm_Acts_stepOn_f rfl rfl rfl rfl rfl rfl rfl (Nat.zero_le _) (Nat.zero_le _) ?_
      show jx_W (jm_Acts_stepOn, _, _, _, _, _, _) _ 0 0 0 [some _] [] _
      refine jr_aload rfl rfl ?_
      refine jr_dup_r rfl ?_
      refine jr_getI rfl rfl ?_
      refine jr_ic rfl ?_
      refine jr_iadd rfl ?_
      refine jr_putI rfl rfl ?_
      rw [jPK_0]
      refine jr_vret rfl rfl (Nat.zero_le _) (Nat.zero_le _) ?_
      refine jr_ic rfl ?_
      refine jr_zret rfl rfl rfl (Nat.zero_le _) (Nat.zero_le _) ?_
      show jx_W (jm_MD_redo, d + 40, 0, 0, false, 1, _) _ 0 0 0 [some _] [] _
      refine jr_aload rfl rfl ?_
      refine jr_getI rfl rfl ?_
      rw [a5]
      refine jr_if_ne rfl (fun _ => ?_) (fun z => absurd z (nI_ne0 (by omega) (by omega)))
      refine jr_aload rfl rfl ?_
      refine jr_cv0 (mc' := 0) (ms' := 0) rfl jm_MD_exchange_n jm_MD_exchange_f rfl rfl rfl rfl rfl rfl rfl (Nat.zero_le _) (Nat.zero_le _) ?_
      refine ev_exchange (n := n) a4 (by omega) (fun W A w1 w2 w3 w4 => ?_)
      have hAk : A = σ (n + 1) := funext (fun q => by
        rcases Nat.lt_or_ge q 337 with z | z
        · exact (w3 q z).trans (s3 n (by omega) (by omega) q z)
        · exact (w4 q z).trans (s5 (n + 1) (by omega) q z).symm)
      refine jr_aload rfl rfl ?_
      refine jr_dup_r rfl ?_
      refine jr_getI rfl rfl ?_
      refine jr_ic rfl ?_
      refine jr_iadd rfl ?_
      refine jr_putI rfl rfl ?_
      refine jr_aload rfl rfl ?_
      refine jr_dup_r rfl ?_
      refine jr_getI rfl rfl ?_
      refine jr_ic rfl ?_
      refine jr_isub rfl ?_
      refine jr_putI rfl rfl ?_
      refine jr_ic rfl ?_
      refine jr_zret rfl rfl rfl (Nat.zero_le _) (Nat.zero_le _) ?_
      refine ⟨rfl, ?_⟩
      simp only [jg_uu, jg_II]
      rw [jg_com (k := 98) (i := 0) (k' := 11) (i' := 0) _ _ _ (fun z => absurd z.1 (by decide)), jg_com (k := 103) (i := 0) (k' := 11) (i' := 0) _ _ _ (fun z => absurd z.1 (by decide))]
      refine jz_Rel_un (n := n) (u := u) (n' := n + 1) (u' := u - 1) (w' := w) hC0 hTa hFa hLy hTi hLe hBo hWo a1 (by omega) s4 s5 s6 hAk hT1 hw2 hwl hLL' ⟨?_, a3⟩ ?_ ?_ (fun f h1 h2 => (jg_un h2).trans (jg_un h1)) (fun j hj q hq => ?_) (fun j h1 h2 q hq => (w2 _ (by omega)).trans (s3 j (by omega) (by omega) q hq))
      · show jh_I hc 0 0 4 + 1 = _
        rw [a2, nI_1]
      · show jh_I hm 11 0 60 + 1 = _
        rw [a4, nI_1]
      · show jh_I hm 11 0 61 - 1 = _
        rw [a5]
        obtain ⟨u1, rfl⟩ : ∃ u1, u = u1 + 1 := ⟨u - 1, by omega⟩
        exact nI_pred _
      · rcases Nat.lt_succ_iff_lt_or_eq.mp hj with z | z
        · exact (w2 _ (by omega)).trans (s2 j z q hq)
        · subst z
          rw [w1 q hq]; exact congrFun ea q

