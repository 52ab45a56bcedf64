theorem jT_what {h : jx_H} {B : Nat → Int32} {sz t i : Nat} (m : jT_mc h B sz t) (hi : i < 29) (hK : jT_K B sz t = 100 + i) : jh_L h 11 0 10 = jT_key (jy_words.getD i []) := by
  have hK' : jT_k B sz (jT_p B sz t) = 100 + i := hK
  obtain ⟨v1, v2, v3, v4, v5⟩ := jT_k_word (B := B) (sz := sz) (a := jT_p B sz t) (by omega)
  rw [m.2.2.2.2 (Or.inr (by omega)), (jT_ix_eq (w := jT_wd B sz (jT_p B sz t)) hi).mp (by omega)]
/-- what a line of the model does: it is good up to its end -/
def jRG (B : Nat → Int32) (sz β t : Nat) (V : Nat → Nat → Nat) (W : Nat → Nat → List Nat) (D : Nat → Int32) (t' : Nat) (V' : Nat → Nat → Nat) (W' : Nat → Nat → List Nat) (D' : Nat → Int32) : Prop := ∃ what : Int64, ∀ (d : Nat) (h0 h : jx_H) (Q : Option jx_V → jx_H → Prop), jML h B sz β t V W D → jMF β h0 h → (∀ h', jMF β h0 h' → jML h' B sz β t' V' W' D' → jq_RL d (jh_n h) Q what 82 h') → jx_Ev jm_MD_readLine (d + 20) 0 0 false 1 [jv_r 11 0] h Q
set_option maxHeartbeats 800000 in
set_option maxRecDepth 100000 in
theorem eM_lnX_x1 {d : Nat} {h : jx_H} {Q : Option jx_V → jx_H → Prop} {h0 : jx_H} {B : Nat → Int32} {sz β t : Nat} {V : Nat → Nat → Nat} {W : Nat → Nat → List Nat} {D : Nat → Int32} (x : jML h B sz β t V W D) (F : jMF β h0 h) (hβ : β < 2) (hK : jT_K B sz t < 100) (k : ∀ h', jMF β h0 h' → jh_I h' 11 0 4 = jX_kd (jT_K B sz t) → jPl h' (jT_p B sz t) → Q none h')  : jx_Ev jm_MD_readLine (d + 20) 0 0 false 1 [jv_r 11 0] h Q := by
  show jx_W (jm_MD_readLine, d + 20, 0, 0, false, 1, _) Q 0 0 0 [some (jv_r 11 0), none, none] [] _
  obtain ⟨⟨t0, m0, f0, b0, -, -, -, -⟩, ⟨⟨r66, -⟩, ⟨r67, -⟩, ⟨r68, -⟩, rr, ⟨r85, -⟩, r86, -, r87, -, -⟩, -⟩ := id x
  have r89 := (rr 5 (by decide)).1
  have hsz : jh_I h 11 0 3 = nI sz := t0.1
  have hs17 : sz ≤ 1700 := t0.2.1
  refine jr_aload rfl rfl ?_
  refine jr_getL rfl rfl ?_
  refine jr_lst1 rfl rfl ?_
  refine jr_aload rfl rfl ?_
  refine jr_getI rfl rfl ?_
  refine jr_ic rfl ?_
  rw [m0.2.2.1]
  refine jr_icmp_ne rfl (fun _ => ?_) (fun z => absurd z (fun z => absurd (show 100 ≤ jT_K B sz t from jT_mt3.mp z) (by omega)))
  refine jr_aload rfl rfl ?_
  refine jr_cv0 (mc' := 0) (ms' := 0) rfl jm_MD_misplaced_n jm_MD_misplaced_f rfl rfl rfl rfl rfl rfl rfl (Nat.zero_le _) (Nat.zero_le _) ?_
  refine eM_misplaced (B := B) (sz := sz) (t := t) f0 m0 (fun h1 g1 => ?_)
  refine jr_aload rfl rfl ?_
  refine jr_cv0 (mc' := 0) (ms' := 0) rfl jm_MD_isGood_n jm_MD_isGood_f rfl rfl rfl rfl rfl rfl rfl (Nat.zero_le _) (Nat.zero_le _) ?_
  show jx_W (jm_MD_isGood, _, _, _, _, _, _) _ 0 0 0 [some _] [] _
  refine jr_aload rfl rfl ?_
  refine jr_getI rfl rfl ?_
  refine jr_if_ne rfl (fun _ => ?_) (fun z => absurd z (by rw [g1.2.2.2.1]; exact jX_kd_n _))
  refine jr_ic rfl ?_
  refine jr_zret rfl rfl rfl (Nat.zero_le _) (Nat.zero_le _) ?_
  refine jr_if_ne rfl (fun z => absurd (by decide) z) (fun _ => ?_)
  refine jr_vret rfl rfl (Nat.zero_le _) (Nat.zero_le _) ?_
  exact k h1 (jMF_ft F g1) g1.2.2.2.1 g1.2.2.2.2

set_option maxHeartbeats 800000 in
set_option maxRecDepth 100000 in
theorem eM_lnX_x2 {d : Nat} {h : jx_H} {Q : Option jx_V → jx_H → Prop} {h0 : jx_H} {B : Nat → Int32} {sz β t : Nat} {V : Nat → Nat → Nat} {W : Nat → Nat → List Nat} {D : Nat → Int32} (x : jML h B sz β t V W D) (F : jMF β h0 h) (hβ : β < 2) (hK : 100 ≤ jT_K B sz t) (hK2 : jT_K B sz t ≠ 100 ∧ jT_K B sz t ≠ 109 ∧ jT_K B sz t ≠ 112 ∧ jT_K B sz t ≠ 118 ∧ jT_K B sz t ≠ 120 ∧ jT_K B sz t ≠ 121 ∧ jT_K B sz t ≠ 125) (k : ∀ h', jMF β h0 h' → jh_I h' 11 0 4 = jX_kd (jT_K B sz t) → jPl h' (jT_p B sz t) → Q none h')  : jx_Ev jm_MD_readLine (d + 20) 0 0 false 1 [jv_r 11 0] h Q := by
  show jx_W (jm_MD_readLine, d + 20, 0, 0, false, 1, _) Q 0 0 0 [some (jv_r 11 0), none, none] [] _
  obtain ⟨⟨t0, m0, f0, b0, -, -, -, -⟩, ⟨⟨r66, -⟩, ⟨r67, -⟩, ⟨r68, -⟩, rr, ⟨r85, -⟩, r86, -, r87, -, -⟩, -⟩ := id x
  have r89 := (rr 5 (by decide)).1
  have hsz : jh_I h 11 0 3 = nI sz := t0.1
  have hs17 : sz ≤ 1700 := t0.2.1
  refine jr_aload rfl rfl ?_
  refine jr_getL rfl rfl ?_
  refine jr_lst1 rfl rfl ?_
  refine jr_aload rfl rfl ?_
  refine jr_getI rfl rfl ?_
  refine jr_ic rfl ?_
  rw [m0.2.2.1]
  refine jr_icmp_ne rfl (fun z => absurd (jT_mt3.mpr (show 100 ≤ jT_K B sz t by omega)) z) (fun _ => ?_)
  refine jr_aload rfl rfl ?_
  refine jr_cv0 (mc' := 0) (ms' := 0) rfl jm_MD_isFull_n jm_MD_isFull_f rfl rfl rfl rfl rfl rfl rfl (Nat.zero_le _) (Nat.zero_le _) ?_
  show jx_W (jm_MD_isFull, _, _, _, _, _, _) _ 0 0 0 [some _] [] _
  refine jr_aload rfl rfl ?_
  refine jr_lc rfl ?_
  refine jr_cv1 (mc' := 0) (ms' := 0) rfl jm_MD_isWord_n jm_MD_isWord_f rfl rfl rfl rfl rfl rfl rfl (Nat.zero_le _) (Nat.zero_le _) ?_
  refine eM_isWord (B := B) (sz := sz) (t := t) m0 (i := 0) (by decide) jT_W0 ?_
  refine jr_if_eq rfl (fun _ => ?_) (fun z => absurd (if_neg (by omega)) z)
  refine jr_aload rfl rfl ?_
  refine jr_lc rfl ?_
  refine jr_cv1 (mc' := 0) (ms' := 0) rfl jm_MD_isWord_n jm_MD_isWord_f rfl rfl rfl rfl rfl rfl rfl (Nat.zero_le _) (Nat.zero_le _) ?_
  refine eM_isWord (B := B) (sz := sz) (t := t) m0 (i := 9) (by decide) jT_W9 ?_
  refine jr_if_eq rfl (fun _ => ?_) (fun z => absurd (if_neg (by omega)) z)
  refine jr_aload rfl rfl ?_
  refine jr_lc rfl ?_
  refine jr_cv1 (mc' := 0) (ms' := 0) rfl jm_MD_isWord_n jm_MD_isWord_f rfl rfl rfl rfl rfl rfl rfl (Nat.zero_le _) (Nat.zero_le _) ?_
  refine eM_isWord (B := B) (sz := sz) (t := t) m0 (i := 12) (by decide) jT_W12 ?_
  refine jr_if_eq rfl (fun _ => ?_) (fun z => absurd (if_neg (by omega)) z)
  refine jr_aload rfl rfl ?_
  refine jr_lc rfl ?_
  refine jr_cv1 (mc' := 0) (ms' := 0) rfl jm_MD_isWord_n jm_MD_isWord_f rfl rfl rfl rfl rfl rfl rfl (Nat.zero_le _) (Nat.zero_le _) ?_
  refine eM_isWord (B := B) (sz := sz) (t := t) m0 (i := 18) (by decide) jT_W18 ?_
  refine jr_if_eq rfl (fun _ => ?_) (fun z => absurd (if_neg (by omega)) z)
  refine jr_aload rfl rfl ?_
  refine jr_lc rfl ?_
  refine jr_cv1 (mc' := 0) (ms' := 0) rfl jm_MD_isWord_n jm_MD_isWord_f rfl rfl rfl rfl rfl rfl rfl (Nat.zero_le _) (Nat.zero_le _) ?_
  refine eM_isWord (B := B) (sz := sz) (t := t) m0 (i := 21) (by decide) jT_W21 ?_
  refine jr_if_eq rfl (fun _ => ?_) (fun z => absurd (if_neg (by omega)) z)
  refine jr_aload rfl rfl ?_
  refine jr_lc rfl ?_
  refine jr_cv1 (mc' := 0) (ms' := 0) rfl jm_MD_isWord_n jm_MD_isWord_f rfl rfl rfl rfl rfl rfl rfl (Nat.zero_le _) (Nat.zero_le _) ?_
  refine eM_isWord (B := B) (sz := sz) (t := t) m0 (i := 25) (by decide) jT_W25 ?_
  refine jr_if_eq rfl (fun _ => ?_) (fun z => absurd (if_neg (by omega)) z)
  refine jr_aload rfl rfl ?_
  refine jr_lc rfl ?_
  refine jr_cv1 (mc' := 0) (ms' := 0) rfl jm_MD_isWord_n jm_MD_isWord_f rfl rfl rfl rfl rfl rfl rfl (Nat.zero_le _) (Nat.zero_le _) ?_
  refine eM_isWord (B := B) (sz := sz) (t := t) m0 (i := 20) (by decide) jT_W20 ?_
  refine jr_if_eq rfl (fun _ => ?_) (fun z => absurd (if_neg (by omega)) z)
  refine jr_ic rfl ?_
  refine jr_goto rfl ?_
  refine jr_zret rfl rfl rfl (Nat.zero_le _) (Nat.zero_le _) ?_
  refine jr_if_eq rfl (fun z => absurd z (by decide)) (fun _ => ?_)
  refine jr_aload rfl rfl ?_
  refine jr_cv0 (mc' := 0) (ms' := 0) rfl jm_MD_misplaced_n jm_MD_misplaced_f rfl rfl rfl rfl rfl rfl rfl (Nat.zero_le _) (Nat.zero_le _) ?_
  refine eM_misplaced (B := B) (sz := sz) (t := t) f0 m0 (fun h1 g1 => ?_)
  refine jr_aload rfl rfl ?_
  refine jr_cv0 (mc' := 0) (ms' := 0) rfl jm_MD_isGood_n jm_MD_isGood_f rfl rfl rfl rfl rfl rfl rfl (Nat.zero_le _) (Nat.zero_le _) ?_
  show jx_W (jm_MD_isGood, _, _, _, _, _, _) _ 0 0 0 [some _] [] _
  refine jr_aload rfl rfl ?_
  refine jr_getI rfl rfl ?_
  refine jr_if_ne rfl (fun _ => ?_) (fun z => absurd z (by rw [g1.2.2.2.1]; exact jX_kd_n _))
  refine jr_ic rfl ?_
  refine jr_zret rfl rfl rfl (Nat.zero_le _) (Nat.zero_le _) ?_
  refine jr_if_ne rfl (fun z => absurd (by decide) z) (fun _ => ?_)
  refine jr_vret rfl rfl (Nat.zero_le _) (Nat.zero_le _) ?_
  exact k h1 (jMF_ft F g1) g1.2.2.2.1 g1.2.2.2.2

set_option maxHeartbeats 800000 in
set_option maxRecDepth 100000 in
theorem eM_lnF_month {d : Nat} {h : jx_H} {Q : Option jx_V → jx_H → Prop} {h0 : jx_H} {B : Nat → Int32} {sz β t : Nat} {V : Nat → Nat → Nat} {W : Nat → Nat → List Nat} {D : Nat → Int32} (x : jML h B sz β t V W D) (F : jMF β h0 h) (hβ : β < 2) (hK : jT_K B sz t = 100) (hn : V 0 0 = 6) (k : ∀ h', jMF β h0 h' → jh_I h' 11 0 4 = jX_kd (jT_K B sz t) → jPl h' (jT_p B sz t) → Q none h')  : jx_Ev jm_MD_readLine (d + 20) 0 0 false 1 [jv_r 11 0] h Q := by
  show jx_W (jm_MD_readLine, d + 20, 0, 0, false, 1, _) Q 0 0 0 [some (jv_r 11 0), none, none] [] _
  obtain ⟨⟨t0, m0, f0, b0, -, -, -, -⟩, ⟨⟨r66, -⟩, ⟨r67, -⟩, ⟨r68, -⟩, rr, ⟨r85, -⟩, r86, -, r87, -, -⟩, -⟩ := id x
  have r89 := (rr 5 (by decide)).1
  have hsz : jh_I h 11 0 3 = nI sz := t0.1
  have hs17 : sz ≤ 1700 := t0.2.1
  refine jr_aload rfl rfl ?_
  refine jr_getL rfl rfl ?_
  refine jr_lst1 rfl rfl ?_
  refine jr_aload rfl rfl ?_
  refine jr_getI rfl rfl ?_
  refine jr_ic rfl ?_
  rw [m0.2.2.1]
  refine jr_icmp_ne rfl (fun z => absurd (jT_mt3.mpr (show 100 ≤ jT_K B sz t by omega)) z) (fun _ => ?_)
  refine jr_aload rfl rfl ?_
  refine jr_cv0 (mc' := 0) (ms' := 0) rfl jm_MD_isFull_n jm_MD_isFull_f rfl rfl rfl rfl rfl rfl rfl (Nat.zero_le _) (Nat.zero_le _) ?_
  show jx_W (jm_MD_isFull, _, _, _, _, _, _) _ 0 0 0 [some _] [] _
  refine jr_aload rfl rfl ?_
  refine jr_lc rfl ?_
  refine jr_cv1 (mc' := 0) (ms' := 0) rfl jm_MD_isWord_n jm_MD_isWord_f rfl rfl rfl rfl rfl rfl rfl (Nat.zero_le _) (Nat.zero_le _) ?_
  refine eM_isWord (B := B) (sz := sz) (t := t) m0 (i := 0) (by decide) jT_W0 ?_
  refine jr_if_eq rfl (fun z => absurd z (by rw [if_pos hK]; decide)) (fun _ => ?_)
  refine jr_aload rfl rfl ?_
  refine jr_getR rfl rfl rfl rfl (Or.inl rfl) ?_
  refine jr_aload rfl rfl ?_
  refine jr_getI rfl rfl ?_
  refine jr_iald (len := 2) rfl rfl b0 (by omega) ?_
  refine jr_ic rfl ?_
  refine jr_icmp_ne rfl (fun z => absurd (r66.trans (congrArg nI hn)) z) (fun _ => ?_)
  refine jr_ic rfl ?_
  refine jr_goto rfl ?_
  refine jr_zret rfl rfl rfl (Nat.zero_le _) (Nat.zero_le _) ?_
  refine jr_if_eq rfl (fun z => absurd z (by decide)) (fun _ => ?_)
  refine jr_aload rfl rfl ?_
  refine jr_cv0 (mc' := 0) (ms' := 0) rfl jm_MD_misplaced_n jm_MD_misplaced_f rfl rfl rfl rfl rfl rfl rfl (Nat.zero_le _) (Nat.zero_le _) ?_
  refine eM_misplaced (B := B) (sz := sz) (t := t) f0 m0 (fun h1 g1 => ?_)
  refine jr_aload rfl rfl ?_
  refine jr_cv0 (mc' := 0) (ms' := 0) rfl jm_MD_isGood_n jm_MD_isGood_f rfl rfl rfl rfl rfl rfl rfl (Nat.zero_le _) (Nat.zero_le _) ?_
  show jx_W (jm_MD_isGood, _, _, _, _, _, _) _ 0 0 0 [some _] [] _
  refine jr_aload rfl rfl ?_
  refine jr_getI rfl rfl ?_
  refine jr_if_ne rfl (fun _ => ?_) (fun z => absurd z (by rw [g1.2.2.2.1]; exact jX_kd_n _))
  refine jr_ic rfl ?_
  refine jr_zret rfl rfl rfl (Nat.zero_le _) (Nat.zero_le _) ?_
  refine jr_if_ne rfl (fun z => absurd (by decide) z) (fun _ => ?_)
  refine jr_vret rfl rfl (Nat.zero_le _) (Nat.zero_le _) ?_
  exact k h1 (jMF_ft F g1) g1.2.2.2.1 g1.2.2.2.2

set_option maxHeartbeats 800000 in
set_option maxRecDepth 100000 in
theorem eM_lnG_month {d : Nat} {h : jx_H} {Q : Option jx_V → jx_H → Prop} {h0 : jx_H} {B : Nat → Int32} {sz β t : Nat} {V : Nat → Nat → Nat} {W : Nat → Nat → List Nat} {D : Nat → Int32} {t2 : Nat} {V2 : Nat → Nat → Nat} {W2 : Nat → Nat → List Nat} {D2 : Nat → Int32} (x : jML h B sz β t V W D) (F : jMF β h0 h) (hβ : β < 2) (hK : jT_K B sz t = 100) (hn : V 0 0 < 6) (g : jLG jm_MD_readMonth 8 B sz β (t + 1) V W D t2 V2 W2 D2) (k : ∀ h', jMF β h0 h' → jML h' B sz β t2 V2 W2 D2 → jq_RL d (jh_n h) Q 470020945000 82 h')  : jx_Ev jm_MD_readLine (d + 20) 0 0 false 1 [jv_r 11 0] h Q := by
  show jx_W (jm_MD_readLine, d + 20, 0, 0, false, 1, _) Q 0 0 0 [some (jv_r 11 0), none, none] [] _
  obtain ⟨⟨t0, m0, f0, b0, -, -, -, -⟩, ⟨⟨r66, -⟩, ⟨r67, -⟩, ⟨r68, -⟩, rr, ⟨r85, -⟩, r86, -, r87, -, -⟩, -⟩ := id x
  have r89 := (rr 5 (by decide)).1
  have hsz : jh_I h 11 0 3 = nI sz := t0.1
  have hs17 : sz ≤ 1700 := t0.2.1
  refine jr_aload rfl rfl ?_
  refine jr_getL rfl rfl ?_
  rw [show jh_L h 11 0 10 = (470020945000 : Int64) from (jT_what m0 (by decide) hK).trans jT_W0.symm]
  refine jr_lst1 rfl rfl ?_
  refine jr_aload rfl rfl ?_
  refine jr_getI rfl rfl ?_
  refine jr_ic rfl ?_
  rw [m0.2.2.1]
  refine jr_icmp_ne rfl (fun z => absurd (jT_mt3.mpr (show 100 ≤ jT_K B sz t by omega)) z) (fun _ => ?_)
  refine jr_aload rfl rfl ?_
  refine jr_cv0 (mc' := 0) (ms' := 0) rfl jm_MD_isFull_n jm_MD_isFull_f rfl rfl rfl rfl rfl rfl rfl (Nat.zero_le _) (Nat.zero_le _) ?_
  show jx_W (jm_MD_isFull, _, _, _, _, _, _) _ 0 0 0 [some _] [] _
  refine jr_aload rfl rfl ?_
  refine jr_lc rfl ?_
  refine jr_cv1 (mc' := 0) (ms' := 0) rfl jm_MD_isWord_n jm_MD_isWord_f rfl rfl rfl rfl rfl rfl rfl (Nat.zero_le _) (Nat.zero_le _) ?_
  refine eM_isWord (B := B) (sz := sz) (t := t) m0 (i := 0) (by decide) jT_W0 ?_
  refine jr_if_eq rfl (fun z => absurd z (by rw [if_pos hK]; decide)) (fun _ => ?_)
  refine jr_aload rfl rfl ?_
  refine jr_getR rfl rfl rfl rfl (Or.inl rfl) ?_
  refine jr_aload rfl rfl ?_
  refine jr_getI rfl rfl ?_
  refine jr_iald (len := 2) rfl rfl b0 (by omega) ?_
  refine jr_ic rfl ?_
  refine jr_icmp_ne rfl (fun _ => ?_) (fun z => absurd z (fun z => absurd (jn_eq (b := 6) (r66.symm.trans z) (by omega) (by omega)) (by omega)))
  refine jr_ic rfl ?_
  refine jr_zret rfl rfl rfl (Nat.zero_le _) (Nat.zero_le _) ?_
  refine jr_if_eq rfl (fun _ => ?_) (fun z => absurd (by decide) z)
  refine jr_aload rfl rfl ?_
  refine jr_cv0 (mc' := 0) (ms' := 0) rfl jm_MD_isGood_n jm_MD_isGood_f rfl rfl rfl rfl rfl rfl rfl (Nat.zero_le _) (Nat.zero_le _) ?_
  show jx_W (jm_MD_isGood, _, _, _, _, _, _) _ 0 0 0 [some _] [] _
  refine jr_aload rfl rfl ?_
  refine jr_getI rfl rfl ?_
  refine jr_if_ne rfl (fun z => absurd f0 z) (fun _ => ?_)
  refine jr_ic rfl ?_
  refine jr_goto rfl ?_
  refine jr_zret rfl rfl rfl (Nat.zero_le _) (Nat.zero_le _) ?_
  refine jr_if_ne rfl (fun _ => ?_) (fun z => absurd z (by decide))
  refine jr_aload rfl rfl ?_
  refine jr_cv0 (mc' := 0) (ms' := 0) rfl jm_MD_goOn_n jm_MD_goOn_f rfl rfl rfl rfl rfl rfl rfl (Nat.zero_le _) (Nat.zero_le _) ?_
  refine eM_goOn (B := B) (sz := sz) (t := t + 1) t0.1 t0.2.1 t0.2.2.1 m0.2.1 (fun h1 g1 m1 => ?_)
  have x1 := jML_G x g1 m1
  have F1 := jMF_G F g1
  refine jr_lload rfl rfl ?_
  refine jr_lc rfl ?_
  refine jr_lcmp rfl ?_
  refine jr_if_ne rfl (fun z => absurd (by decide +kernel) z) (fun _ => ?_)
  refine jr_aload rfl rfl ?_
  refine jr_cv0 (mc' := 0) (ms' := 0) rfl jm_MD_readMonth_n jm_MD_readMonth_f rfl rfl rfl rfl rfl rfl rfl (Nat.zero_le _) (Nat.zero_le _) ?_
  refine g (d + 11) _ _ _ x1 F1 (fun h2 F2 x2 => ?_)
  refine jr_lload rfl rfl ?_
  refine jr_lc rfl ?_
  refine jr_lcmp rfl ?_
  refine jr_if_ne rfl (fun _ => ?_) (fun z => absurd z (by decide +kernel))
  refine jr_lload rfl rfl ?_
  refine jr_lc rfl ?_
  refine jr_lcmp rfl ?_
  refine jr_if_ne rfl (fun _ => ?_) (fun z => absurd z (by decide +kernel))
  refine jr_lload rfl rfl ?_
  refine jr_lc rfl ?_
  refine jr_lcmp rfl ?_
  refine jr_if_ne rfl (fun _ => ?_) (fun z => absurd z (by decide +kernel))
  refine jr_lload rfl rfl ?_
  refine jr_lc rfl ?_
  refine jr_lcmp rfl ?_
  refine jr_if_ne rfl (fun _ => ?_) (fun z => absurd z (by decide +kernel))
  refine jr_lload rfl rfl ?_
  refine jr_lc rfl ?_
  refine jr_lcmp rfl ?_
  refine jr_if_ne rfl (fun _ => ?_) (fun z => absurd z (by decide +kernel))
  refine jr_lload rfl rfl ?_
  refine jr_lc rfl ?_
  refine jr_lcmp rfl ?_
  refine jr_if_ne rfl (fun _ => ?_) (fun z => absurd z (by decide +kernel))
  exact k h2 F2 x2

set_option maxHeartbeats 800000 in
set_option maxRecDepth 100000 in
theorem eM_lnB_month {d : Nat} {h : jx_H} {Q : Option jx_V → jx_H → Prop} {h0 : jx_H} {B : Nat → Int32} {sz β t : Nat} {V : Nat → Nat → Nat} {W : Nat → Nat → List Nat} {D : Nat → Int32} {kd : Int32} {pl : Nat} (x : jML h B sz β t V W D) (F : jMF β h0 h) (hβ : β < 2) (hK : jT_K B sz t = 100) (hn : V 0 0 < 6) (hk : jFk sz kd pl) (g : jLB jm_MD_readMonth 8 B sz β (t + 1) V W D kd pl) (k : ∀ h', jMF β h0 h' → jh_I h' 11 0 4 = kd → jPl h' pl → Q none h')  : jx_Ev jm_MD_readLine (d + 20) 0 0 false 1 [jv_r 11 0] h Q := by
  show jx_W (jm_MD_readLine, d + 20, 0, 0, false, 1, _) Q 0 0 0 [some (jv_r 11 0), none, none] [] _
  obtain ⟨⟨t0, m0, f0, b0, -, -, -, -⟩, ⟨⟨r66, -⟩, ⟨r67, -⟩, ⟨r68, -⟩, rr, ⟨r85, -⟩, r86, -, r87, -, -⟩, -⟩ := id x
  have r89 := (rr 5 (by decide)).1
  have hsz : jh_I h 11 0 3 = nI sz := t0.1
  have hs17 : sz ≤ 1700 := t0.2.1
  refine jr_aload rfl rfl ?_
  refine jr_getL rfl rfl ?_
  rw [show jh_L h 11 0 10 = (470020945000 : Int64) from (jT_what m0 (by decide) hK).trans jT_W0.symm]
  refine jr_lst1 rfl rfl ?_
  refine jr_aload rfl rfl ?_
  refine jr_getI rfl rfl ?_
  refine jr_ic rfl ?_
  rw [m0.2.2.1]
  refine jr_icmp_ne rfl (fun z => absurd (jT_mt3.mpr (show 100 ≤ jT_K B sz t by omega)) z) (fun _ => ?_)
  refine jr_aload rfl rfl ?_
  refine jr_cv0 (mc' := 0) (ms' := 0) rfl jm_MD_isFull_n jm_MD_isFull_f rfl rfl rfl rfl rfl rfl rfl (Nat.zero_le _) (Nat.zero_le _) ?_
  show jx_W (jm_MD_isFull, _, _, _, _, _, _) _ 0 0 0 [some _] [] _
  refine jr_aload rfl rfl ?_
  refine jr_lc rfl ?_
  refine jr_cv1 (mc' := 0) (ms' := 0) rfl jm_MD_isWord_n jm_MD_isWord_f rfl rfl rfl rfl rfl rfl rfl (Nat.zero_le _) (Nat.zero_le _) ?_
  refine eM_isWord (B := B) (sz := sz) (t := t) m0 (i := 0) (by decide) jT_W0 ?_
  refine jr_if_eq rfl (fun z => absurd z (by rw [if_pos hK]; decide)) (fun _ => ?_)
  refine jr_aload rfl rfl ?_
  refine jr_getR rfl rfl rfl rfl (Or.inl rfl) ?_
  refine jr_aload rfl rfl ?_
  refine jr_getI rfl rfl ?_
  refine jr_iald (len := 2) rfl rfl b0 (by omega) ?_
  refine jr_ic rfl ?_
  refine jr_icmp_ne rfl (fun _ => ?_) (fun z => absurd z (fun z => absurd (jn_eq (b := 6) (r66.symm.trans z) (by omega) (by omega)) (by omega)))
  refine jr_ic rfl ?_
  refine jr_zret rfl rfl rfl (Nat.zero_le _) (Nat.zero_le _) ?_
  refine jr_if_eq rfl (fun _ => ?_) (fun z => absurd (by decide) z)
  refine jr_aload rfl rfl ?_
  refine jr_cv0 (mc' := 0) (ms' := 0) rfl jm_MD_isGood_n jm_MD_isGood_f rfl rfl rfl rfl rfl rfl rfl (Nat.zero_le _) (Nat.zero_le _) ?_
  show jx_W (jm_MD_isGood, _, _, _, _, _, _) _ 0 0 0 [some _] [] _
  refine jr_aload rfl rfl ?_
  refine jr_getI rfl rfl ?_
  refine jr_if_ne rfl (fun z => absurd f0 z) (fun _ => ?_)
  refine jr_ic rfl ?_
  refine jr_goto rfl ?_
  refine jr_zret rfl rfl rfl (Nat.zero_le _) (Nat.zero_le _) ?_
  refine jr_if_ne rfl (fun _ => ?_) (fun z => absurd z (by decide))
  refine jr_aload rfl rfl ?_
  refine jr_cv0 (mc' := 0) (ms' := 0) rfl jm_MD_goOn_n jm_MD_goOn_f rfl rfl rfl rfl rfl rfl rfl (Nat.zero_le _) (Nat.zero_le _) ?_
  refine eM_goOn (B := B) (sz := sz) (t := t + 1) t0.1 t0.2.1 t0.2.2.1 m0.2.1 (fun h1 g1 m1 => ?_)
  have x1 := jML_G x g1 m1
  have F1 := jMF_G F g1
  refine jr_lload rfl rfl ?_
  refine jr_lc rfl ?_
  refine jr_lcmp rfl ?_
  refine jr_if_ne rfl (fun z => absurd (by decide +kernel) z) (fun _ => ?_)
  refine jr_aload rfl rfl ?_
  refine jr_cv0 (mc' := 0) (ms' := 0) rfl jm_MD_readMonth_n jm_MD_readMonth_f rfl rfl rfl rfl rfl rfl rfl (Nat.zero_le _) (Nat.zero_le _) ?_
  refine g (d + 11) _ _ _ x1 F1 (fun h2 F2 e2 p2 => ?_)
  refine jr_lload rfl rfl ?_
  refine jr_lc rfl ?_
  refine jr_lcmp rfl ?_
  refine jr_if_ne rfl (fun _ => ?_) (fun z => absurd z (by decide +kernel))
  refine jr_lload rfl rfl ?_
  refine jr_lc rfl ?_
  refine jr_lcmp rfl ?_
  refine jr_if_ne rfl (fun _ => ?_) (fun z => absurd z (by decide +kernel))
  refine jr_lload rfl rfl ?_
  refine jr_lc rfl ?_
  refine jr_lcmp rfl ?_
  refine jr_if_ne rfl (fun _ => ?_) (fun z => absurd z (by decide +kernel))
  refine jr_lload rfl rfl ?_
  refine jr_lc rfl ?_
  refine jr_lcmp rfl ?_
  refine jr_if_ne rfl (fun _ => ?_) (fun z => absurd z (by decide +kernel))
  refine jr_lload rfl rfl ?_
  refine jr_lc rfl ?_
  refine jr_lcmp rfl ?_
  refine jr_if_ne rfl (fun _ => ?_) (fun z => absurd z (by decide +kernel))
  refine jr_lload rfl rfl ?_
  refine jr_lc rfl ?_
  refine jr_lcmp rfl ?_
  refine jr_if_ne rfl (fun _ => ?_) (fun z => absurd z (by decide +kernel))
  exact eM_tail_b (sz := sz) (by rw [e2]; exact hk.1) p2 (((F2.2.2.2.2.2 3 (by decide)).trans (F.2.2.2.2.2 3 (by decide)).symm).trans hsz) hs17 hk.2 (k h2 F2 e2 p2)

set_option maxHeartbeats 800000 in
set_option maxRecDepth 100000 in
theorem eM_lnF_person {d : Nat} {h : jx_H} {Q : Option jx_V → jx_H → Prop} {h0 : jx_H} {B : Nat → Int32} {sz β t : Nat} {V : Nat → Nat → Nat} {W : Nat → Nat → List Nat} {D : Nat → Int32} (x : jML h B sz β t V W D) (F : jMF β h0 h) (hβ : β < 2) (hK : jT_K B sz t = 109) (hn : V 0 1 = 5) (k : ∀ h', jMF β h0 h' → jh_I h' 11 0 4 = jX_kd (jT_K B sz t) → jPl h' (jT_p B sz t) → Q none h')  : jx_Ev jm_MD_readLine (d + 20) 0 0 false 1 [jv_r 11 0] h Q := by
  show jx_W (jm_MD_readLine, d + 20, 0, 0, false, 1, _) Q 0 0 0 [some (jv_r 11 0), none, none] [] _
  obtain ⟨⟨t0, m0, f0, b0, -, -, -, -⟩, ⟨⟨r66, -⟩, ⟨r67, -⟩, ⟨r68, -⟩, rr, ⟨r85, -⟩, r86, -, r87, -, -⟩, -⟩ := id x
  have r89 := (rr 5 (by decide)).1
  have hsz : jh_I h 11 0 3 = nI sz := t0.1
  have hs17 : sz ≤ 1700 := t0.2.1
  refine jr_aload rfl rfl ?_
  refine jr_getL rfl rfl ?_
  refine jr_lst1 rfl rfl ?_
  refine jr_aload rfl rfl ?_
  refine jr_getI rfl rfl ?_
  refine jr_ic rfl ?_
  rw [m0.2.2.1]
  refine jr_icmp_ne rfl (fun z => absurd (jT_mt3.mpr (show 100 ≤ jT_K B sz t by omega)) z) (fun _ => ?_)
  refine jr_aload rfl rfl ?_
  refine jr_cv0 (mc' := 0) (ms' := 0) rfl jm_MD_isFull_n jm_MD_isFull_f rfl rfl rfl rfl rfl rfl rfl (Nat.zero_le _) (Nat.zero_le _) ?_
  show jx_W (jm_MD_isFull, _, _, _, _, _, _) _ 0 0 0 [some _] [] _
  refine jr_aload rfl rfl ?_
  refine jr_lc rfl ?_
  refine jr_cv1 (mc' := 0) (ms' := 0) rfl jm_MD_isWord_n jm_MD_isWord_f rfl rfl rfl rfl rfl rfl rfl (Nat.zero_le _) (Nat.zero_le _) ?_
  refine eM_isWord (B := B) (sz := sz) (t := t) m0 (i := 0) (by decide) jT_W0 ?_
  refine jr_if_eq rfl (fun _ => ?_) (fun z => absurd (if_neg (by omega)) z)
  refine jr_aload rfl rfl ?_
  refine jr_lc rfl ?_
  refine jr_cv1 (mc' := 0) (ms' := 0) rfl jm_MD_isWord_n jm_MD_isWord_f rfl rfl rfl rfl rfl rfl rfl (Nat.zero_le _) (Nat.zero_le _) ?_
  refine eM_isWord (B := B) (sz := sz) (t := t) m0 (i := 9) (by decide) jT_W9 ?_
  refine jr_if_eq rfl (fun z => absurd z (by rw [if_pos hK]; decide)) (fun _ => ?_)
  refine jr_aload rfl rfl ?_
  refine jr_getR rfl rfl rfl rfl (Or.inl rfl) ?_
  refine jr_aload rfl rfl ?_
  refine jr_getI rfl rfl ?_
  refine jr_iald (len := 2) rfl rfl b0 (by omega) ?_
  refine jr_ic rfl ?_
  refine jr_icmp_ne rfl (fun z => absurd (r67.trans (congrArg nI hn)) z) (fun _ => ?_)
  refine jr_ic rfl ?_
  refine jr_goto rfl ?_
  refine jr_zret rfl rfl rfl (Nat.zero_le _) (Nat.zero_le _) ?_
  refine jr_if_eq rfl (fun z => absurd z (by decide)) (fun _ => ?_)
  refine jr_aload rfl rfl ?_
  refine jr_cv0 (mc' := 0) (ms' := 0) rfl jm_MD_misplaced_n jm_MD_misplaced_f rfl rfl rfl rfl rfl rfl rfl (Nat.zero_le _) (Nat.zero_le _) ?_
  refine eM_misplaced (B := B) (sz := sz) (t := t) f0 m0 (fun h1 g1 => ?_)
  refine jr_aload rfl rfl ?_
  refine jr_cv0 (mc' := 0) (ms' := 0) rfl jm_MD_isGood_n jm_MD_isGood_f rfl rfl rfl rfl rfl rfl rfl (Nat.zero_le _) (Nat.zero_le _) ?_
  show jx_W (jm_MD_isGood, _, _, _, _, _, _) _ 0 0 0 [some _] [] _
  refine jr_aload rfl rfl ?_
  refine jr_getI rfl rfl ?_
  refine jr_if_ne rfl (fun _ => ?_) (fun z => absurd z (by rw [g1.2.2.2.1]; exact jX_kd_n _))
  refine jr_ic rfl ?_
  refine jr_zret rfl rfl rfl (Nat.zero_le _) (Nat.zero_le _) ?_
  refine jr_if_ne rfl (fun z => absurd (by decide) z) (fun _ => ?_)
  refine jr_vret rfl rfl (Nat.zero_le _) (Nat.zero_le _) ?_
  exact k h1 (jMF_ft F g1) g1.2.2.2.1 g1.2.2.2.2

set_option maxHeartbeats 800000 in
set_option maxRecDepth 100000 in
theorem eM_lnG_person {d : Nat} {h : jx_H} {Q : Option jx_V → jx_H → Prop} {h0 : jx_H} {B : Nat → Int32} {sz β t : Nat} {V : Nat → Nat → Nat} {W : Nat → Nat → List Nat} {D : Nat → Int32} {t2 : Nat} {V2 : Nat → Nat → Nat} {W2 : Nat → Nat → List Nat} {D2 : Nat → Int32} (x : jML h B sz β t V W D) (F : jMF β h0 h) (hβ : β < 2) (hK : jT_K B sz t = 109) (hn : V 0 1 < 5) (g : jLG jm_MD_readPerson 14 B sz β (t + 1) V W D t2 V2 W2 D2) (k : ∀ h', jMF β h0 h' → jML h' B sz β t2 V2 W2 D2 → jq_RL d (jh_n h) Q 123581014175598 82 h')  : jx_Ev jm_MD_readLine (d + 20) 0 0 false 1 [jv_r 11 0] h Q := by
  show jx_W (jm_MD_readLine, d + 20, 0, 0, false, 1, _) Q 0 0 0 [some (jv_r 11 0), none, none] [] _
  obtain ⟨⟨t0, m0, f0, b0, -, -, -, -⟩, ⟨⟨r66, -⟩, ⟨r67, -⟩, ⟨r68, -⟩, rr, ⟨r85, -⟩, r86, -, r87, -, -⟩, -⟩ := id x
  have r89 := (rr 5 (by decide)).1
  have hsz : jh_I h 11 0 3 = nI sz := t0.1
  have hs17 : sz ≤ 1700 := t0.2.1
  refine jr_aload rfl rfl ?_
  refine jr_getL rfl rfl ?_
  rw [show jh_L h 11 0 10 = (123581014175598 : Int64) from (jT_what m0 (by decide) hK).trans jT_W9.symm]
  refine jr_lst1 rfl rfl ?_
  refine jr_aload rfl rfl ?_
  refine jr_getI rfl rfl ?_
  refine jr_ic rfl ?_
  rw [m0.2.2.1]
  refine jr_icmp_ne rfl (fun z => absurd (jT_mt3.mpr (show 100 ≤ jT_K B sz t by omega)) z) (fun _ => ?_)
  refine jr_aload rfl rfl ?_
  refine jr_cv0 (mc' := 0) (ms' := 0) rfl jm_MD_isFull_n jm_MD_isFull_f rfl rfl rfl rfl rfl rfl rfl (Nat.zero_le _) (Nat.zero_le _) ?_
  show jx_W (jm_MD_isFull, _, _, _, _, _, _) _ 0 0 0 [some _] [] _
  refine jr_aload rfl rfl ?_
  refine jr_lc rfl ?_
  refine jr_cv1 (mc' := 0) (ms' := 0) rfl jm_MD_isWord_n jm_MD_isWord_f rfl rfl rfl rfl rfl rfl rfl (Nat.zero_le _) (Nat.zero_le _) ?_
  refine eM_isWord (B := B) (sz := sz) (t := t) m0 (i := 0) (by decide) jT_W0 ?_
  refine jr_if_eq rfl (fun _ => ?_) (fun z => absurd (if_neg (by omega)) z)
  refine jr_aload rfl rfl ?_
  refine jr_lc rfl ?_
  refine jr_cv1 (mc' := 0) (ms' := 0) rfl jm_MD_isWord_n jm_MD_isWord_f rfl rfl rfl rfl rfl rfl rfl (Nat.zero_le _) (Nat.zero_le _) ?_
  refine eM_isWord (B := B) (sz := sz) (t := t) m0 (i := 9) (by decide) jT_W9 ?_
  refine jr_if_eq rfl (fun z => absurd z (by rw [if_pos hK]; decide)) (fun _ => ?_)
  refine jr_aload rfl rfl ?_
  refine jr_getR rfl rfl rfl rfl (Or.inl rfl) ?_
  refine jr_aload rfl rfl ?_
  refine jr_getI rfl rfl ?_
  refine jr_iald (len := 2) rfl rfl b0 (by omega) ?_
  refine jr_ic rfl ?_
  refine jr_icmp_ne rfl (fun _ => ?_) (fun z => absurd z (fun z => absurd (jn_eq (b := 5) (r67.symm.trans z) (by omega) (by omega)) (by omega)))
  refine jr_ic rfl ?_
  refine jr_zret rfl rfl rfl (Nat.zero_le _) (Nat.zero_le _) ?_
  refine jr_if_eq rfl (fun _ => ?_) (fun z => absurd (by decide) z)
  refine jr_aload rfl rfl ?_
  refine jr_cv0 (mc' := 0) (ms' := 0) rfl jm_MD_isGood_n jm_MD_isGood_f rfl rfl rfl rfl rfl rfl rfl (Nat.zero_le _) (Nat.zero_le _) ?_
  show jx_W (jm_MD_isGood, _, _, _, _, _, _) _ 0 0 0 [some _] [] _
  refine jr_aload rfl rfl ?_
  refine jr_getI rfl rfl ?_
  refine jr_if_ne rfl (fun z => absurd f0 z) (fun _ => ?_)
  refine jr_ic rfl ?_
  refine jr_goto rfl ?_
  refine jr_zret rfl rfl rfl (Nat.zero_le _) (Nat.zero_le _) ?_
  refine jr_if_ne rfl (fun _ => ?_) (fun z => absurd z (by decide))
  refine jr_aload rfl rfl ?_
  refine jr_cv0 (mc' := 0) (ms' := 0) rfl jm_MD_goOn_n jm_MD_goOn_f rfl rfl rfl rfl rfl rfl rfl (Nat.zero_le _) (Nat.zero_le _) ?_
  refine eM_goOn (B := B) (sz := sz) (t := t + 1) t0.1 t0.2.1 t0.2.2.1 m0.2.1 (fun h1 g1 m1 => ?_)
  have x1 := jML_G x g1 m1
  have F1 := jMF_G F g1
  refine jr_lload rfl rfl ?_
  refine jr_lc rfl ?_
  refine jr_lcmp rfl ?_
  refine jr_if_ne rfl (fun _ => ?_) (fun z => absurd z (by decide +kernel))
  refine jr_lload rfl rfl ?_
  refine jr_lc rfl ?_
  refine jr_lcmp rfl ?_
  refine jr_if_ne rfl (fun z => absurd (by decide +kernel) z) (fun _ => ?_)
  refine jr_aload rfl rfl ?_
  refine jr_cv0 (mc' := 0) (ms' := 0) rfl jm_MD_readPerson_n jm_MD_readPerson_f rfl rfl rfl rfl rfl rfl rfl (Nat.zero_le _) (Nat.zero_le _) ?_
  refine g (d + 5) _ _ _ x1 F1 (fun h2 F2 x2 => ?_)
  refine jr_lload rfl rfl ?_
  refine jr_lc rfl ?_
  refine jr_lcmp rfl ?_
  refine jr_if_ne rfl (fun _ => ?_) (fun z => absurd z (by decide +kernel))
  refine jr_lload rfl rfl ?_
  refine jr_lc rfl ?_
  refine jr_lcmp rfl ?_
  refine jr_if_ne rfl (fun _ => ?_) (fun z => absurd z (by decide +kernel))
  refine jr_lload rfl rfl ?_
  refine jr_lc rfl ?_
  refine jr_lcmp rfl ?_
  refine jr_if_ne rfl (fun _ => ?_) (fun z => absurd z (by decide +kernel))
  refine jr_lload rfl rfl ?_
  refine jr_lc rfl ?_
  refine jr_lcmp rfl ?_
  refine jr_if_ne rfl (fun _ => ?_) (fun z => absurd z (by decide +kernel))
  refine jr_lload rfl rfl ?_
  refine jr_lc rfl ?_
  refine jr_lcmp rfl ?_
  refine jr_if_ne rfl (fun _ => ?_) (fun z => absurd z (by decide +kernel))
  exact k h2 F2 x2

set_option maxHeartbeats 800000 in
set_option maxRecDepth 100000 in
theorem eM_lnB_person {d : Nat} {h : jx_H} {Q : Option jx_V → jx_H → Prop} {h0 : jx_H} {B : Nat → Int32} {sz β t : Nat} {V : Nat → Nat → Nat} {W : Nat → Nat → List Nat} {D : Nat → Int32} {kd : Int32} {pl : Nat} (x : jML h B sz β t V W D) (F : jMF β h0 h) (hβ : β < 2) (hK : jT_K B sz t = 109) (hn : V 0 1 < 5) (hk : jFk sz kd pl) (g : jLB jm_MD_readPerson 14 B sz β (t + 1) V W D kd pl) (k : ∀ h', jMF β h0 h' → jh_I h' 11 0 4 = kd → jPl h' pl → Q none h')  : jx_Ev jm_MD_readLine (d + 20) 0 0 false 1 [jv_r 11 0] h Q := by
  show jx_W (jm_MD_readLine, d + 20, 0, 0, false, 1, _) Q 0 0 0 [some (jv_r 11 0), none, none] [] _
  obtain ⟨⟨t0, m0, f0, b0, -, -, -, -⟩, ⟨⟨r66, -⟩, ⟨r67, -⟩, ⟨r68, -⟩, rr, ⟨r85, -⟩, r86, -, r87, -, -⟩, -⟩ := id x
  have r89 := (rr 5 (by decide)).1
  have hsz : jh_I h 11 0 3 = nI sz := t0.1
  have hs17 : sz ≤ 1700 := t0.2.1
  refine jr_aload rfl rfl ?_
  refine jr_getL rfl rfl ?_
  rw [show jh_L h 11 0 10 = (123581014175598 : Int64) from (jT_what m0 (by decide) hK).trans jT_W9.symm]
  refine jr_lst1 rfl rfl ?_
  refine jr_aload rfl rfl ?_
  refine jr_getI rfl rfl ?_
  refine jr_ic rfl ?_
  rw [m0.2.2.1]
  refine jr_icmp_ne rfl (fun z => absurd (jT_mt3.mpr (show 100 ≤ jT_K B sz t by omega)) z) (fun _ => ?_)
  refine jr_aload rfl rfl ?_
  refine jr_cv0 (mc' := 0) (ms' := 0) rfl jm_MD_isFull_n jm_MD_isFull_f rfl rfl rfl rfl rfl rfl rfl (Nat.zero_le _) (Nat.zero_le _) ?_
  show jx_W (jm_MD_isFull, _, _, _, _, _, _) _ 0 0 0 [some _] [] _
  refine jr_aload rfl rfl ?_
  refine jr_lc rfl ?_
  refine jr_cv1 (mc' := 0) (ms' := 0) rfl jm_MD_isWord_n jm_MD_isWord_f rfl rfl rfl rfl rfl rfl rfl (Nat.zero_le _) (Nat.zero_le _) ?_
  refine eM_isWord (B := B) (sz := sz) (t := t) m0 (i := 0) (by decide) jT_W0 ?_
  refine jr_if_eq rfl (fun _ => ?_) (fun z => absurd (if_neg (by omega)) z)
  refine jr_aload rfl rfl ?_
  refine jr_lc rfl ?_
  refine jr_cv1 (mc' := 0) (ms' := 0) rfl jm_MD_isWord_n jm_MD_isWord_f rfl rfl rfl rfl rfl rfl rfl (Nat.zero_le _) (Nat.zero_le _) ?_
  refine eM_isWord (B := B) (sz := sz) (t := t) m0 (i := 9) (by decide) jT_W9 ?_
  refine jr_if_eq rfl (fun z => absurd z (by rw [if_pos hK]; decide)) (fun _ => ?_)
  refine jr_aload rfl rfl ?_
  refine jr_getR rfl rfl rfl rfl (Or.inl rfl) ?_
  refine jr_aload rfl rfl ?_
  refine jr_getI rfl rfl ?_
  refine jr_iald (len := 2) rfl rfl b0 (by omega) ?_
  refine jr_ic rfl ?_
  refine jr_icmp_ne rfl (fun _ => ?_) (fun z => absurd z (fun z => absurd (jn_eq (b := 5) (r67.symm.trans z) (by omega) (by omega)) (by omega)))
  refine jr_ic rfl ?_
  refine jr_zret rfl rfl rfl (Nat.zero_le _) (Nat.zero_le _) ?_
  refine jr_if_eq rfl (fun _ => ?_) (fun z => absurd (by decide) z)
  refine jr_aload rfl rfl ?_
  refine jr_cv0 (mc' := 0) (ms' := 0) rfl jm_MD_isGood_n jm_MD_isGood_f rfl rfl rfl rfl rfl rfl rfl (Nat.zero_le _) (Nat.zero_le _) ?_
  show jx_W (jm_MD_isGood, _, _, _, _, _, _) _ 0 0 0 [some _] [] _
  refine jr_aload rfl rfl ?_
  refine jr_getI rfl rfl ?_
  refine jr_if_ne rfl (fun z => absurd f0 z) (fun _ => ?_)
  refine jr_ic rfl ?_
  refine jr_goto rfl ?_
  refine jr_zret rfl rfl rfl (Nat.zero_le _) (Nat.zero_le _) ?_
  refine jr_if_ne rfl (fun _ => ?_) (fun z => absurd z (by decide))
  refine jr_aload rfl rfl ?_
  refine jr_cv0 (mc' := 0) (ms' := 0) rfl jm_MD_goOn_n jm_MD_goOn_f rfl rfl rfl rfl rfl rfl rfl (Nat.zero_le _) (Nat.zero_le _) ?_
  refine eM_goOn (B := B) (sz := sz) (t := t + 1) t0.1 t0.2.1 t0.2.2.1 m0.2.1 (fun h1 g1 m1 => ?_)
  have x1 := jML_G x g1 m1
  have F1 := jMF_G F g1
  refine jr_lload rfl rfl ?_
  refine jr_lc rfl ?_
  refine jr_lcmp rfl ?_
  refine jr_if_ne rfl (fun _ => ?_) (fun z => absurd z (by decide +kernel))
  refine jr_lload rfl rfl ?_
  refine jr_lc rfl ?_
  refine jr_lcmp rfl ?_
  refine jr_if_ne rfl (fun z => absurd (by decide +kernel) z) (fun _ => ?_)
  refine jr_aload rfl rfl ?_
  refine jr_cv0 (mc' := 0) (ms' := 0) rfl jm_MD_readPerson_n jm_MD_readPerson_f rfl rfl rfl rfl rfl rfl rfl (Nat.zero_le _) (Nat.zero_le _) ?_
  refine g (d + 5) _ _ _ x1 F1 (fun h2 F2 e2 p2 => ?_)
  refine jr_lload rfl rfl ?_
  refine jr_lc rfl ?_
  refine jr_lcmp rfl ?_
  refine jr_if_ne rfl (fun _ => ?_) (fun z => absurd z (by decide +kernel))
  refine jr_lload rfl rfl ?_
  refine jr_lc rfl ?_
  refine jr_lcmp rfl ?_
  refine jr_if_ne rfl (fun _ => ?_) (fun z => absurd z (by decide +kernel))
  refine jr_lload rfl rfl ?_
  refine jr_lc rfl ?_
  refine jr_lcmp rfl ?_
  refine jr_if_ne rfl (fun _ => ?_) (fun z => absurd z (by decide +kernel))
  refine jr_lload rfl rfl ?_
  refine jr_lc rfl ?_
  refine jr_lcmp rfl ?_
  refine jr_if_ne rfl (fun _ => ?_) (fun z => absurd z (by decide +kernel))
  refine jr_lload rfl rfl ?_
  refine jr_lc rfl ?_
  refine jr_lcmp rfl ?_
  refine jr_if_ne rfl (fun _ => ?_) (fun z => absurd z (by decide +kernel))
  exact eM_tail_b (sz := sz) (by rw [e2]; exact hk.1) p2 (((F2.2.2.2.2.2 3 (by decide)).trans (F.2.2.2.2.2 3 (by decide)).symm).trans hsz) hs17 hk.2 (k h2 F2 e2 p2)

set_option maxHeartbeats 800000 in
set_option maxRecDepth 100000 in
theorem eM_lnF_due {d : Nat} {h : jx_H} {Q : Option jx_V → jx_H → Prop} {h0 : jx_H} {B : Nat → Int32} {sz β t : Nat} {V : Nat → Nat → Nat} {W : Nat → Nat → List Nat} {D : Nat → Int32} (x : jML h B sz β t V W D) (F : jMF β h0 h) (hβ : β < 2) (hK : jT_K B sz t = 112) (hn : V 0 2 = 12) (k : ∀ h', jMF β h0 h' → jh_I h' 11 0 4 = jX_kd (jT_K B sz t) → jPl h' (jT_p B sz t) → Q none h')  : jx_Ev jm_MD_readLine (d + 20) 0 0 false 1 [jv_r 11 0] h Q := by
  show jx_W (jm_MD_readLine, d + 20, 0, 0, false, 1, _) Q 0 0 0 [some (jv_r 11 0), none, none] [] _
  obtain ⟨⟨t0, m0, f0, b0, -, -, -, -⟩, ⟨⟨r66, -⟩, ⟨r67, -⟩, ⟨r68, -⟩, rr, ⟨r85, -⟩, r86, -, r87, -, -⟩, -⟩ := id x
  have r89 := (rr 5 (by decide)).1
  have hsz : jh_I h 11 0 3 = nI sz := t0.1
  have hs17 : sz ≤ 1700 := t0.2.1
  refine jr_aload rfl rfl ?_
  refine jr_getL rfl rfl ?_
  refine jr_lst1 rfl rfl ?_
  refine jr_aload rfl rfl ?_
  refine jr_getI rfl rfl ?_
  refine jr_ic rfl ?_
  rw [m0.2.2.1]
  refine jr_icmp_ne rfl (fun z => absurd (jT_mt3.mpr (show 100 ≤ jT_K B sz t by omega)) z) (fun _ => ?_)
  refine jr_aload rfl rfl ?_
  refine jr_cv0 (mc' := 0) (ms' := 0) rfl jm_MD_isFull_n jm_MD_isFull_f rfl rfl rfl rfl rfl rfl rfl (Nat.zero_le _) (Nat.zero_le _) ?_
  show jx_W (jm_MD_isFull, _, _, _, _, _, _) _ 0 0 0 [some _] [] _
  refine jr_aload rfl rfl ?_
  refine jr_lc rfl ?_
  refine jr_cv1 (mc' := 0) (ms' := 0) rfl jm_MD_isWord_n jm_MD_isWord_f rfl rfl rfl rfl rfl rfl rfl (Nat.zero_le _) (Nat.zero_le _) ?_
  refine eM_isWord (B := B) (sz := sz) (t := t) m0 (i := 0) (by decide) jT_W0 ?_
  refine jr_if_eq rfl (fun _ => ?_) (fun z => absurd (if_neg (by omega)) z)
  refine jr_aload rfl rfl ?_
  refine jr_lc rfl ?_
  refine jr_cv1 (mc' := 0) (ms' := 0) rfl jm_MD_isWord_n jm_MD_isWord_f rfl rfl rfl rfl rfl rfl rfl (Nat.zero_le _) (Nat.zero_le _) ?_
  refine eM_isWord (B := B) (sz := sz) (t := t) m0 (i := 9) (by decide) jT_W9 ?_
  refine jr_if_eq rfl (fun _ => ?_) (fun z => absurd (if_neg (by omega)) z)
  refine jr_aload rfl rfl ?_
  refine jr_lc rfl ?_
  refine jr_cv1 (mc' := 0) (ms' := 0) rfl jm_MD_isWord_n jm_MD_isWord_f rfl rfl rfl rfl rfl rfl rfl (Nat.zero_le _) (Nat.zero_le _) ?_
  refine eM_isWord (B := B) (sz := sz) (t := t) m0 (i := 12) (by decide) jT_W12 ?_
  refine jr_if_eq rfl (fun z => absurd z (by rw [if_pos hK]; decide)) (fun _ => ?_)
  refine jr_aload rfl rfl ?_
  refine jr_getR rfl rfl rfl rfl (Or.inl rfl) ?_
  refine jr_aload rfl rfl ?_
  refine jr_getI rfl rfl ?_
  refine jr_iald (len := 2) rfl rfl b0 (by omega) ?_
  refine jr_ic rfl ?_
  refine jr_icmp_ne rfl (fun z => absurd (r68.trans (congrArg nI hn)) z) (fun _ => ?_)
  refine jr_ic rfl ?_
  refine jr_goto rfl ?_
  refine jr_zret rfl rfl rfl (Nat.zero_le _) (Nat.zero_le _) ?_
  refine jr_if_eq rfl (fun z => absurd z (by decide)) (fun _ => ?_)
  refine jr_aload rfl rfl ?_
  refine jr_cv0 (mc' := 0) (ms' := 0) rfl jm_MD_misplaced_n jm_MD_misplaced_f rfl rfl rfl rfl rfl rfl rfl (Nat.zero_le _) (Nat.zero_le _) ?_
  refine eM_misplaced (B := B) (sz := sz) (t := t) f0 m0 (fun h1 g1 => ?_)
  refine jr_aload rfl rfl ?_
  refine jr_cv0 (mc' := 0) (ms' := 0) rfl jm_MD_isGood_n jm_MD_isGood_f rfl rfl rfl rfl rfl rfl rfl (Nat.zero_le _) (Nat.zero_le _) ?_
  show jx_W (jm_MD_isGood, _, _, _, _, _, _) _ 0 0 0 [some _] [] _
  refine jr_aload rfl rfl ?_
  refine jr_getI rfl rfl ?_
  refine jr_if_ne rfl (fun _ => ?_) (fun z => absurd z (by rw [g1.2.2.2.1]; exact jX_kd_n _))
  refine jr_ic rfl ?_
  refine jr_zret rfl rfl rfl (Nat.zero_le _) (Nat.zero_le _) ?_
  refine jr_if_ne rfl (fun z => absurd (by decide) z) (fun _ => ?_)
  refine jr_vret rfl rfl (Nat.zero_le _) (Nat.zero_le _) ?_
  exact k h1 (jMF_ft F g1) g1.2.2.2.1 g1.2.2.2.2

set_option maxHeartbeats 800000 in
set_option maxRecDepth 100000 in
theorem eM_lnG_due {d : Nat} {h : jx_H} {Q : Option jx_V → jx_H → Prop} {h0 : jx_H} {B : Nat → Int32} {sz β t : Nat} {V : Nat → Nat → Nat} {W : Nat → Nat → List Nat} {D : Nat → Int32} {t2 : Nat} {V2 : Nat → Nat → Nat} {W2 : Nat → Nat → List Nat} {D2 : Nat → Int32} (x : jML h B sz β t V W D) (F : jMF β h0 h) (hβ : β < 2) (hK : jT_K B sz t = 112) (hn : V 0 2 < 12) (g : jLG jm_MD_readDue 8 B sz β (t + 1) V W D t2 V2 W2 D2) (k : ∀ h', jMF β h0 h' → jML h' B sz β t2 V2 W2 D2 → jq_RL d (jh_n h) Q 6583653 82 h')  : jx_Ev jm_MD_readLine (d + 20) 0 0 false 1 [jv_r 11 0] h Q := by
  show jx_W (jm_MD_readLine, d + 20, 0, 0, false, 1, _) Q 0 0 0 [some (jv_r 11 0), none, none] [] _
  obtain ⟨⟨t0, m0, f0, b0, -, -, -, -⟩, ⟨⟨r66, -⟩, ⟨r67, -⟩, ⟨r68, -⟩, rr, ⟨r85, -⟩, r86, -, r87, -, -⟩, -⟩ := id x
  have r89 := (rr 5 (by decide)).1
  have hsz : jh_I h 11 0 3 = nI sz := t0.1
  have hs17 : sz ≤ 1700 := t0.2.1
  refine jr_aload rfl rfl ?_
  refine jr_getL rfl rfl ?_
  rw [show jh_L h 11 0 10 = (6583653 : Int64) from (jT_what m0 (by decide) hK).trans jT_W12.symm]
  refine jr_lst1 rfl rfl ?_
  refine jr_aload rfl rfl ?_
  refine jr_getI rfl rfl ?_
  refine jr_ic rfl ?_
  rw [m0.2.2.1]
  refine jr_icmp_ne rfl (fun z => absurd (jT_mt3.mpr (show 100 ≤ jT_K B sz t by omega)) z) (fun _ => ?_)
  refine jr_aload rfl rfl ?_
  refine jr_cv0 (mc' := 0) (ms' := 0) rfl jm_MD_isFull_n jm_MD_isFull_f rfl rfl rfl rfl rfl rfl rfl (Nat.zero_le _) (Nat.zero_le _) ?_
  show jx_W (jm_MD_isFull, _, _, _, _, _, _) _ 0 0 0 [some _] [] _
  refine jr_aload rfl rfl ?_
  refine jr_lc rfl ?_
  refine jr_cv1 (mc' := 0) (ms' := 0) rfl jm_MD_isWord_n jm_MD_isWord_f rfl rfl rfl rfl rfl rfl rfl (Nat.zero_le _) (Nat.zero_le _) ?_
  refine eM_isWord (B := B) (sz := sz) (t := t) m0 (i := 0) (by decide) jT_W0 ?_
  refine jr_if_eq rfl (fun _ => ?_) (fun z => absurd (if_neg (by omega)) z)
  refine jr_aload rfl rfl ?_
  refine jr_lc rfl ?_
  refine jr_cv1 (mc' := 0) (ms' := 0) rfl jm_MD_isWord_n jm_MD_isWord_f rfl rfl rfl rfl rfl rfl rfl (Nat.zero_le _) (Nat.zero_le _) ?_
  refine eM_isWord (B := B) (sz := sz) (t := t) m0 (i := 9) (by decide) jT_W9 ?_
  refine jr_if_eq rfl (fun _ => ?_) (fun z => absurd (if_neg (by omega)) z)
  refine jr_aload rfl rfl ?_
  refine jr_lc rfl ?_
  refine jr_cv1 (mc' := 0) (ms' := 0) rfl jm_MD_isWord_n jm_MD_isWord_f rfl rfl rfl rfl rfl rfl rfl (Nat.zero_le _) (Nat.zero_le _) ?_
  refine eM_isWord (B := B) (sz := sz) (t := t) m0 (i := 12) (by decide) jT_W12 ?_
  refine jr_if_eq rfl (fun z => absurd z (by rw [if_pos hK]; decide)) (fun _ => ?_)
  refine jr_aload rfl rfl ?_
  refine jr_getR rfl rfl rfl rfl (Or.inl rfl) ?_
  refine jr_aload rfl rfl ?_
  refine jr_getI rfl rfl ?_
  refine jr_iald (len := 2) rfl rfl b0 (by omega) ?_
  refine jr_ic rfl ?_
  refine jr_icmp_ne rfl (fun _ => ?_) (fun z => absurd z (fun z => absurd (jn_eq (b := 12) (r68.symm.trans z) (by omega) (by omega)) (by omega)))
  refine jr_ic rfl ?_
  refine jr_zret rfl rfl rfl (Nat.zero_le _) (Nat.zero_le _) ?_
  refine jr_if_eq rfl (fun _ => ?_) (fun z => absurd (by decide) z)
  refine jr_aload rfl rfl ?_
  refine jr_cv0 (mc' := 0) (ms' := 0) rfl jm_MD_isGood_n jm_MD_isGood_f rfl rfl rfl rfl rfl rfl rfl (Nat.zero_le _) (Nat.zero_le _) ?_
  show jx_W (jm_MD_isGood, _, _, _, _, _, _) _ 0 0 0 [some _] [] _
  refine jr_aload rfl rfl ?_
  refine jr_getI rfl rfl ?_
  refine jr_if_ne rfl (fun z => absurd f0 z) (fun _ => ?_)
  refine jr_ic rfl ?_
  refine jr_goto rfl ?_
  refine jr_zret rfl rfl rfl (Nat.zero_le _) (Nat.zero_le _) ?_
  refine jr_if_ne rfl (fun _ => ?_) (fun z => absurd z (by decide))
  refine jr_aload rfl rfl ?_
  refine jr_cv0 (mc' := 0) (ms' := 0) rfl jm_MD_goOn_n jm_MD_goOn_f rfl rfl rfl rfl rfl rfl rfl (Nat.zero_le _) (Nat.zero_le _) ?_
  refine eM_goOn (B := B) (sz := sz) (t := t + 1) t0.1 t0.2.1 t0.2.2.1 m0.2.1 (fun h1 g1 m1 => ?_)
  have x1 := jML_G x g1 m1
  have F1 := jMF_G F g1
  refine jr_lload rfl rfl ?_
  refine jr_lc rfl ?_
  refine jr_lcmp rfl ?_
  refine jr_if_ne rfl (fun _ => ?_) (fun z => absurd z (by decide +kernel))
  refine jr_lload rfl rfl ?_
  refine jr_lc rfl ?_
  refine jr_lcmp rfl ?_
  refine jr_if_ne rfl (fun _ => ?_) (fun z => absurd z (by decide +kernel))
  refine jr_lload rfl rfl ?_
  refine jr_lc rfl ?_
  refine jr_lcmp rfl ?_
  refine jr_if_ne rfl (fun z => absurd (by decide +kernel) z) (fun _ => ?_)
  refine jr_aload rfl rfl ?_
  refine jr_cv0 (mc' := 0) (ms' := 0) rfl jm_MD_readDue_n jm_MD_readDue_f rfl rfl rfl rfl rfl rfl rfl (Nat.zero_le _) (Nat.zero_le _) ?_
  refine g (d + 11) _ _ _ x1 F1 (fun h2 F2 x2 => ?_)
  refine jr_lload rfl rfl ?_
  refine jr_lc rfl ?_
  refine jr_lcmp rfl ?_
  refine jr_if_ne rfl (fun _ => ?_) (fun z => absurd z (by decide +kernel))
  refine jr_lload rfl rfl ?_
  refine jr_lc rfl ?_
  refine jr_lcmp rfl ?_
  refine jr_if_ne rfl (fun _ => ?_) (fun z => absurd z (by decide +kernel))
  refine jr_lload rfl rfl ?_
  refine jr_lc rfl ?_
  refine jr_lcmp rfl ?_
  refine jr_if_ne rfl (fun _ => ?_) (fun z => absurd z (by decide +kernel))
  refine jr_lload rfl rfl ?_
  refine jr_lc rfl ?_
  refine jr_lcmp rfl ?_
  refine jr_if_ne rfl (fun _ => ?_) (fun z => absurd z (by decide +kernel))
  exact k h2 F2 x2

set_option maxHeartbeats 800000 in
set_option maxRecDepth 100000 in
theorem eM_lnB_due {d : Nat} {h : jx_H} {Q : Option jx_V → jx_H → Prop} {h0 : jx_H} {B : Nat → Int32} {sz β t : Nat} {V : Nat → Nat → Nat} {W : Nat → Nat → List Nat} {D : Nat → Int32} {kd : Int32} {pl : Nat} (x : jML h B sz β t V W D) (F : jMF β h0 h) (hβ : β < 2) (hK : jT_K B sz t = 112) (hn : V 0 2 < 12) (hk : jFk sz kd pl) (g : jLB jm_MD_readDue 8 B sz β (t + 1) V W D kd pl) (k : ∀ h', jMF β h0 h' → jh_I h' 11 0 4 = kd → jPl h' pl → Q none h')  : jx_Ev jm_MD_readLine (d + 20) 0 0 false 1 [jv_r 11 0] h Q := by
  show jx_W (jm_MD_readLine, d + 20, 0, 0, false, 1, _) Q 0 0 0 [some (jv_r 11 0), none, none] [] _
  obtain ⟨⟨t0, m0, f0, b0, -, -, -, -⟩, ⟨⟨r66, -⟩, ⟨r67, -⟩, ⟨r68, -⟩, rr, ⟨r85, -⟩, r86, -, r87, -, -⟩, -⟩ := id x
  have r89 := (rr 5 (by decide)).1
  have hsz : jh_I h 11 0 3 = nI sz := t0.1
  have hs17 : sz ≤ 1700 := t0.2.1
  refine jr_aload rfl rfl ?_
  refine jr_getL rfl rfl ?_
  rw [show jh_L h 11 0 10 = (6583653 : Int64) from (jT_what m0 (by decide) hK).trans jT_W12.symm]
  refine jr_lst1 rfl rfl ?_
  refine jr_aload rfl rfl ?_
  refine jr_getI rfl rfl ?_
  refine jr_ic rfl ?_
  rw [m0.2.2.1]
  refine jr_icmp_ne rfl (fun z => absurd (jT_mt3.mpr (show 100 ≤ jT_K B sz t by omega)) z) (fun _ => ?_)
  refine jr_aload rfl rfl ?_
  refine jr_cv0 (mc' := 0) (ms' := 0) rfl jm_MD_isFull_n jm_MD_isFull_f rfl rfl rfl rfl rfl rfl rfl (Nat.zero_le _) (Nat.zero_le _) ?_
  show jx_W (jm_MD_isFull, _, _, _, _, _, _) _ 0 0 0 [some _] [] _
  refine jr_aload rfl rfl ?_
  refine jr_lc rfl ?_
  refine jr_cv1 (mc' := 0) (ms' := 0) rfl jm_MD_isWord_n jm_MD_isWord_f rfl rfl rfl rfl rfl rfl rfl (Nat.zero_le _) (Nat.zero_le _) ?_
  refine eM_isWord (B := B) (sz := sz) (t := t) m0 (i := 0) (by decide) jT_W0 ?_
  refine jr_if_eq rfl (fun _ => ?_) (fun z => absurd (if_neg (by omega)) z)
  refine jr_aload rfl rfl ?_
  refine jr_lc rfl ?_
  refine jr_cv1 (mc' := 0) (ms' := 0) rfl jm_MD_isWord_n jm_MD_isWord_f rfl rfl rfl rfl rfl rfl rfl (Nat.zero_le _) (Nat.zero_le _) ?_
  refine eM_isWord (B := B) (sz := sz) (t := t) m0 (i := 9) (by decide) jT_W9 ?_
  refine jr_if_eq rfl (fun _ => ?_) (fun z => absurd (if_neg (by omega)) z)
  refine jr_aload rfl rfl ?_
  refine jr_lc rfl ?_
  refine jr_cv1 (mc' := 0) (ms' := 0) rfl jm_MD_isWord_n jm_MD_isWord_f rfl rfl rfl rfl rfl rfl rfl (Nat.zero_le _) (Nat.zero_le _) ?_
  refine eM_isWord (B := B) (sz := sz) (t := t) m0 (i := 12) (by decide) jT_W12 ?_
  refine jr_if_eq rfl (fun z => absurd z (by rw [if_pos hK]; decide)) (fun _ => ?_)
  refine jr_aload rfl rfl ?_
  refine jr_getR rfl rfl rfl rfl (Or.inl rfl) ?_
  refine jr_aload rfl rfl ?_
  refine jr_getI rfl rfl ?_
  refine jr_iald (len := 2) rfl rfl b0 (by omega) ?_
  refine jr_ic rfl ?_
  refine jr_icmp_ne rfl (fun _ => ?_) (fun z => absurd z (fun z => absurd (jn_eq (b := 12) (r68.symm.trans z) (by omega) (by omega)) (by omega)))
  refine jr_ic rfl ?_
  refine jr_zret rfl rfl rfl (Nat.zero_le _) (Nat.zero_le _) ?_
  refine jr_if_eq rfl (fun _ => ?_) (fun z => absurd (by decide) z)
  refine jr_aload rfl rfl ?_
  refine jr_cv0 (mc' := 0) (ms' := 0) rfl jm_MD_isGood_n jm_MD_isGood_f rfl rfl rfl rfl rfl rfl rfl (Nat.zero_le _) (Nat.zero_le _) ?_
  show jx_W (jm_MD_isGood, _, _, _, _, _, _) _ 0 0 0 [some _] [] _
  refine jr_aload rfl rfl ?_
  refine jr_getI rfl rfl ?_
  refine jr_if_ne rfl (fun z => absurd f0 z) (fun _ => ?_)
  refine jr_ic rfl ?_
  refine jr_goto rfl ?_
  refine jr_zret rfl rfl rfl (Nat.zero_le _) (Nat.zero_le _) ?_
  refine jr_if_ne rfl (fun _ => ?_) (fun z => absurd z (by decide))
  refine jr_aload rfl rfl ?_
  refine jr_cv0 (mc' := 0) (ms' := 0) rfl jm_MD_goOn_n jm_MD_goOn_f rfl rfl rfl rfl rfl rfl rfl (Nat.zero_le _) (Nat.zero_le _) ?_
  refine eM_goOn (B := B) (sz := sz) (t := t + 1) t0.1 t0.2.1 t0.2.2.1 m0.2.1 (fun h1 g1 m1 => ?_)
  have x1 := jML_G x g1 m1
  have F1 := jMF_G F g1
  refine jr_lload rfl rfl ?_
  refine jr_lc rfl ?_
  refine jr_lcmp rfl ?_
  refine jr_if_ne rfl (fun _ => ?_) (fun z => absurd z (by decide +kernel))
  refine jr_lload rfl rfl ?_
  refine jr_lc rfl ?_
  refine jr_lcmp rfl ?_
  refine jr_if_ne rfl (fun _ => ?_) (fun z => absurd z (by decide +kernel))
  refine jr_lload rfl rfl ?_
  refine jr_lc rfl ?_
  refine jr_lcmp rfl ?_
  refine jr_if_ne rfl (fun z => absurd (by decide +kernel) z) (fun _ => ?_)
  refine jr_aload rfl rfl ?_
  refine jr_cv0 (mc' := 0) (ms' := 0) rfl jm_MD_readDue_n jm_MD_readDue_f rfl rfl rfl rfl rfl rfl rfl (Nat.zero_le _) (Nat.zero_le _) ?_
  refine g (d + 11) _ _ _ x1 F1 (fun h2 F2 e2 p2 => ?_)
  refine jr_lload rfl rfl ?_
  refine jr_lc rfl ?_
  refine jr_lcmp rfl ?_
  refine jr_if_ne rfl (fun _ => ?_) (fun z => absurd z (by decide +kernel))
  refine jr_lload rfl rfl ?_
  refine jr_lc rfl ?_
  refine jr_lcmp rfl ?_
  refine jr_if_ne rfl (fun _ => ?_) (fun z => absurd z (by decide +kernel))
  refine jr_lload rfl rfl ?_
  refine jr_lc rfl ?_
  refine jr_lcmp rfl ?_
  refine jr_if_ne rfl (fun _ => ?_) (fun z => absurd z (by decide +kernel))
  refine jr_lload rfl rfl ?_
  refine jr_lc rfl ?_
  refine jr_lcmp rfl ?_
  refine jr_if_ne rfl (fun _ => ?_) (fun z => absurd z (by decide +kernel))
  exact eM_tail_b (sz := sz) (by rw [e2]; exact hk.1) p2 (((F2.2.2.2.2.2 3 (by decide)).trans (F.2.2.2.2.2 3 (by decide)).symm).trans hsz) hs17 hk.2 (k h2 F2 e2 p2)

set_option maxHeartbeats 800000 in
set_option maxRecDepth 100000 in
theorem eM_lnF_sun {d : Nat} {h : jx_H} {Q : Option jx_V → jx_H → Prop} {h0 : jx_H} {B : Nat → Int32} {sz β t : Nat} {V : Nat → Nat → Nat} {W : Nat → Nat → List Nat} {D : Nat → Int32} (x : jML h B sz β t V W D) (F : jMF β h0 h) (hβ : β < 2) (hK : jT_K B sz t = 118) (hn : V 0 5 = 1) (k : ∀ h', jMF β h0 h' → jh_I h' 11 0 4 = jX_kd (jT_K B sz t) → jPl h' (jT_p B sz t) → Q none h')  : jx_Ev jm_MD_readLine (d + 20) 0 0 false 1 [jv_r 11 0] h Q := by
  show jx_W (jm_MD_readLine, d + 20, 0, 0, false, 1, _) Q 0 0 0 [some (jv_r 11 0), none, none] [] _
  obtain ⟨⟨t0, m0, f0, b0, -, -, -, -⟩, ⟨⟨r66, -⟩, ⟨r67, -⟩, ⟨r68, -⟩, rr, ⟨r85, -⟩, r86, -, r87, -, -⟩, -⟩ := id x
  have r89 := (rr 5 (by decide)).1
  have hsz : jh_I h 11 0 3 = nI sz := t0.1
  have hs17 : sz ≤ 1700 := t0.2.1
  refine jr_aload rfl rfl ?_
  refine jr_getL rfl rfl ?_
  refine jr_lst1 rfl rfl ?_
  refine jr_aload rfl rfl ?_
  refine jr_getI rfl rfl ?_
  refine jr_ic rfl ?_
  rw [m0.2.2.1]
  refine jr_icmp_ne rfl (fun z => absurd (jT_mt3.mpr (show 100 ≤ jT_K B sz t by omega)) z) (fun _ => ?_)
  refine jr_aload rfl rfl ?_
  refine jr_cv0 (mc' := 0) (ms' := 0) rfl jm_MD_isFull_n jm_MD_isFull_f rfl rfl rfl rfl rfl rfl rfl (Nat.zero_le _) (Nat.zero_le _) ?_
  show jx_W (jm_MD_isFull, _, _, _, _, _, _) _ 0 0 0 [some _] [] _
  refine jr_aload rfl rfl ?_
  refine jr_lc rfl ?_
  refine jr_cv1 (mc' := 0) (ms' := 0) rfl jm_MD_isWord_n jm_MD_isWord_f rfl rfl rfl rfl rfl rfl rfl (Nat.zero_le _) (Nat.zero_le _) ?_
  refine eM_isWord (B := B) (sz := sz) (t := t) m0 (i := 0) (by decide) jT_W0 ?_
  refine jr_if_eq rfl (fun _ => ?_) (fun z => absurd (if_neg (by omega)) z)
  refine jr_aload rfl rfl ?_
  refine jr_lc rfl ?_
  refine jr_cv1 (mc' := 0) (ms' := 0) rfl jm_MD_isWord_n jm_MD_isWord_f rfl rfl rfl rfl rfl rfl rfl (Nat.zero_le _) (Nat.zero_le _) ?_
  refine eM_isWord (B := B) (sz := sz) (t := t) m0 (i := 9) (by decide) jT_W9 ?_
  refine jr_if_eq rfl (fun _ => ?_) (fun z => absurd (if_neg (by omega)) z)
  refine jr_aload rfl rfl ?_
  refine jr_lc rfl ?_
  refine jr_cv1 (mc' := 0) (ms' := 0) rfl jm_MD_isWord_n jm_MD_isWord_f rfl rfl rfl rfl rfl rfl rfl (Nat.zero_le _) (Nat.zero_le _) ?_
  refine eM_isWord (B := B) (sz := sz) (t := t) m0 (i := 12) (by decide) jT_W12 ?_
  refine jr_if_eq rfl (fun _ => ?_) (fun z => absurd (if_neg (by omega)) z)
  refine jr_aload rfl rfl ?_
  refine jr_lc rfl ?_
  refine jr_cv1 (mc' := 0) (ms' := 0) rfl jm_MD_isWord_n jm_MD_isWord_f rfl rfl rfl rfl rfl rfl rfl (Nat.zero_le _) (Nat.zero_le _) ?_
  refine eM_isWord (B := B) (sz := sz) (t := t) m0 (i := 18) (by decide) jT_W18 ?_
  refine jr_if_eq rfl (fun z => absurd z (by rw [if_pos hK]; decide)) (fun _ => ?_)
  refine jr_aload rfl rfl ?_
  refine jr_getR rfl rfl rfl rfl (Or.inl rfl) ?_
  refine jr_aload rfl rfl ?_
  refine jr_getI rfl rfl ?_
  refine jr_zald (len := 2) rfl rfl b0 (by omega) ?_
  rw [r85, hn]
  refine jr_zret rfl rfl rfl (Nat.zero_le _) (Nat.zero_le _) ?_
  refine jr_if_eq rfl (fun z => absurd z (by decide)) (fun _ => ?_)
  refine jr_aload rfl rfl ?_
  refine jr_cv0 (mc' := 0) (ms' := 0) rfl jm_MD_misplaced_n jm_MD_misplaced_f rfl rfl rfl rfl rfl rfl rfl (Nat.zero_le _) (Nat.zero_le _) ?_
  refine eM_misplaced (B := B) (sz := sz) (t := t) f0 m0 (fun h1 g1 => ?_)
  refine jr_aload rfl rfl ?_
  refine jr_cv0 (mc' := 0) (ms' := 0) rfl jm_MD_isGood_n jm_MD_isGood_f rfl rfl rfl rfl rfl rfl rfl (Nat.zero_le _) (Nat.zero_le _) ?_
  show jx_W (jm_MD_isGood, _, _, _, _, _, _) _ 0 0 0 [some _] [] _
  refine jr_aload rfl rfl ?_
  refine jr_getI rfl rfl ?_
  refine jr_if_ne rfl (fun _ => ?_) (fun z => absurd z (by rw [g1.2.2.2.1]; exact jX_kd_n _))
  refine jr_ic rfl ?_
  refine jr_zret rfl rfl rfl (Nat.zero_le _) (Nat.zero_le _) ?_
  refine jr_if_ne rfl (fun z => absurd (by decide) z) (fun _ => ?_)
  refine jr_vret rfl rfl (Nat.zero_le _) (Nat.zero_le _) ?_
  exact k h1 (jMF_ft F g1) g1.2.2.2.1 g1.2.2.2.2

set_option maxHeartbeats 800000 in
set_option maxRecDepth 100000 in
theorem eM_lnG_sun {d : Nat} {h : jx_H} {Q : Option jx_V → jx_H → Prop} {h0 : jx_H} {B : Nat → Int32} {sz β t : Nat} {V : Nat → Nat → Nat} {W : Nat → Nat → List Nat} {D : Nat → Int32} {t2 : Nat} {V2 : Nat → Nat → Nat} {W2 : Nat → Nat → List Nat} {D2 : Nat → Int32} (x : jML h B sz β t V W D) (F : jMF β h0 h) (hβ : β < 2) (hK : jT_K B sz t = 118) (hn : V 0 5 = 0) (g : jLG jm_MD_readSun 8 B sz β (t + 1) V W D t2 V2 W2 D2) (k : ∀ h', jMF β h0 h' → jML h' B sz β t2 V2 W2 D2 → jq_RL d (jh_n h) Q 7566702 82 h')  : jx_Ev jm_MD_readLine (d + 20) 0 0 false 1 [jv_r 11 0] h Q := by
  show jx_W (jm_MD_readLine, d + 20, 0, 0, false, 1, _) Q 0 0 0 [some (jv_r 11 0), none, none] [] _
  obtain ⟨⟨t0, m0, f0, b0, -, -, -, -⟩, ⟨⟨r66, -⟩, ⟨r67, -⟩, ⟨r68, -⟩, rr, ⟨r85, -⟩, r86, -, r87, -, -⟩, -⟩ := id x
  have r89 := (rr 5 (by decide)).1
  have hsz : jh_I h 11 0 3 = nI sz := t0.1
  have hs17 : sz ≤ 1700 := t0.2.1
  refine jr_aload rfl rfl ?_
  refine jr_getL rfl rfl ?_
  rw [show jh_L h 11 0 10 = (7566702 : Int64) from (jT_what m0 (by decide) hK).trans jT_W18.symm]
  refine jr_lst1 rfl rfl ?_
  refine jr_aload rfl rfl ?_
  refine jr_getI rfl rfl ?_
  refine jr_ic rfl ?_
  rw [m0.2.2.1]
  refine jr_icmp_ne rfl (fun z => absurd (jT_mt3.mpr (show 100 ≤ jT_K B sz t by omega)) z) (fun _ => ?_)
  refine jr_aload rfl rfl ?_
  refine jr_cv0 (mc' := 0) (ms' := 0) rfl jm_MD_isFull_n jm_MD_isFull_f rfl rfl rfl rfl rfl rfl rfl (Nat.zero_le _) (Nat.zero_le _) ?_
  show jx_W (jm_MD_isFull, _, _, _, _, _, _) _ 0 0 0 [some _] [] _
  refine jr_aload rfl rfl ?_
  refine jr_lc rfl ?_
  refine jr_cv1 (mc' := 0) (ms' := 0) rfl jm_MD_isWord_n jm_MD_isWord_f rfl rfl rfl rfl rfl rfl rfl (Nat.zero_le _) (Nat.zero_le _) ?_
  refine eM_isWord (B := B) (sz := sz) (t := t) m0 (i := 0) (by decide) jT_W0 ?_
  refine jr_if_eq rfl (fun _ => ?_) (fun z => absurd (if_neg (by omega)) z)
  refine jr_aload rfl rfl ?_
  refine jr_lc rfl ?_
  refine jr_cv1 (mc' := 0) (ms' := 0) rfl jm_MD_isWord_n jm_MD_isWord_f rfl rfl rfl rfl rfl rfl rfl (Nat.zero_le _) (Nat.zero_le _) ?_
  refine eM_isWord (B := B) (sz := sz) (t := t) m0 (i := 9) (by decide) jT_W9 ?_
  refine jr_if_eq rfl (fun _ => ?_) (fun z => absurd (if_neg (by omega)) z)
  refine jr_aload rfl rfl ?_
  refine jr_lc rfl ?_
  refine jr_cv1 (mc' := 0) (ms' := 0) rfl jm_MD_isWord_n jm_MD_isWord_f rfl rfl rfl rfl rfl rfl rfl (Nat.zero_le _) (Nat.zero_le _) ?_
  refine eM_isWord (B := B) (sz := sz) (t := t) m0 (i := 12) (by decide) jT_W12 ?_
  refine jr_if_eq rfl (fun _ => ?_) (fun z => absurd (if_neg (by omega)) z)
  refine jr_aload rfl rfl ?_
  refine jr_lc rfl ?_
  refine jr_cv1 (mc' := 0) (ms' := 0) rfl jm_MD_isWord_n jm_MD_isWord_f rfl rfl rfl rfl rfl rfl rfl (Nat.zero_le _) (Nat.zero_le _) ?_
  refine eM_isWord (B := B) (sz := sz) (t := t) m0 (i := 18) (by decide) jT_W18 ?_
  refine jr_if_eq rfl (fun z => absurd z (by rw [if_pos hK]; decide)) (fun _ => ?_)
  refine jr_aload rfl rfl ?_
  refine jr_getR rfl rfl rfl rfl (Or.inl rfl) ?_
  refine jr_aload rfl rfl ?_
  refine jr_getI rfl rfl ?_
  refine jr_zald (len := 2) rfl rfl b0 (by omega) ?_
  rw [r85, hn]
  refine jr_zret rfl rfl rfl (Nat.zero_le _) (Nat.zero_le _) ?_
  refine jr_if_eq rfl (fun _ => ?_) (fun z => absurd (by decide) z)
  refine jr_aload rfl rfl ?_
  refine jr_cv0 (mc' := 0) (ms' := 0) rfl jm_MD_isGood_n jm_MD_isGood_f rfl rfl rfl rfl rfl rfl rfl (Nat.zero_le _) (Nat.zero_le _) ?_
  show jx_W (jm_MD_isGood, _, _, _, _, _, _) _ 0 0 0 [some _] [] _
  refine jr_aload rfl rfl ?_
  refine jr_getI rfl rfl ?_
  refine jr_if_ne rfl (fun z => absurd f0 z) (fun _ => ?_)
  refine jr_ic rfl ?_
  refine jr_goto rfl ?_
  refine jr_zret rfl rfl rfl (Nat.zero_le _) (Nat.zero_le _) ?_
  refine jr_if_ne rfl (fun _ => ?_) (fun z => absurd z (by decide))
  refine jr_aload rfl rfl ?_
  refine jr_cv0 (mc' := 0) (ms' := 0) rfl jm_MD_goOn_n jm_MD_goOn_f rfl rfl rfl rfl rfl rfl rfl (Nat.zero_le _) (Nat.zero_le _) ?_
  refine eM_goOn (B := B) (sz := sz) (t := t + 1) t0.1 t0.2.1 t0.2.2.1 m0.2.1 (fun h1 g1 m1 => ?_)
  have x1 := jML_G x g1 m1
  have F1 := jMF_G F g1
  refine jr_lload rfl rfl ?_
  refine jr_lc rfl ?_
  refine jr_lcmp rfl ?_
  refine jr_if_ne rfl (fun _ => ?_) (fun z => absurd z (by decide +kernel))
  refine jr_lload rfl rfl ?_
  refine jr_lc rfl ?_
  refine jr_lcmp rfl ?_
  refine jr_if_ne rfl (fun _ => ?_) (fun z => absurd z (by decide +kernel))
  refine jr_lload rfl rfl ?_
  refine jr_lc rfl ?_
  refine jr_lcmp rfl ?_
  refine jr_if_ne rfl (fun _ => ?_) (fun z => absurd z (by decide +kernel))
  refine jr_lload rfl rfl ?_
  refine jr_lc rfl ?_
  refine jr_lcmp rfl ?_
  refine jr_if_ne rfl (fun z => absurd (by decide +kernel) z) (fun _ => ?_)
  refine jr_aload rfl rfl ?_
  refine jr_cv0 (mc' := 0) (ms' := 0) rfl jm_MD_readSun_n jm_MD_readSun_f rfl rfl rfl rfl rfl rfl rfl (Nat.zero_le _) (Nat.zero_le _) ?_
  refine g (d + 11) _ _ _ x1 F1 (fun h2 F2 x2 => ?_)
  refine jr_lload rfl rfl ?_
  refine jr_lc rfl ?_
  refine jr_lcmp rfl ?_
  refine jr_if_ne rfl (fun _ => ?_) (fun z => absurd z (by decide +kernel))
  refine jr_lload rfl rfl ?_
  refine jr_lc rfl ?_
  refine jr_lcmp rfl ?_
  refine jr_if_ne rfl (fun _ => ?_) (fun z => absurd z (by decide +kernel))
  refine jr_lload rfl rfl ?_
  refine jr_lc rfl ?_
  refine jr_lcmp rfl ?_
  refine jr_if_ne rfl (fun _ => ?_) (fun z => absurd z (by decide +kernel))
  exact k h2 F2 x2

set_option maxHeartbeats 800000 in
set_option maxRecDepth 100000 in
theorem eM_lnB_sun {d : Nat} {h : jx_H} {Q : Option jx_V → jx_H → Prop} {h0 : jx_H} {B : Nat → Int32} {sz β t : Nat} {V : Nat → Nat → Nat} {W : Nat → Nat → List Nat} {D : Nat → Int32} {kd : Int32} {pl : Nat} (x : jML h B sz β t V W D) (F : jMF β h0 h) (hβ : β < 2) (hK : jT_K B sz t = 118) (hn : V 0 5 = 0) (hk : jFk sz kd pl) (g : jLB jm_MD_readSun 8 B sz β (t + 1) V W D kd pl) (k : ∀ h', jMF β h0 h' → jh_I h' 11 0 4 = kd → jPl h' pl → Q none h')  : jx_Ev jm_MD_readLine (d + 20) 0 0 false 1 [jv_r 11 0] h Q := by
  show jx_W (jm_MD_readLine, d + 20, 0, 0, false, 1, _) Q 0 0 0 [some (jv_r 11 0), none, none] [] _
  obtain ⟨⟨t0, m0, f0, b0, -, -, -, -⟩, ⟨⟨r66, -⟩, ⟨r67, -⟩, ⟨r68, -⟩, rr, ⟨r85, -⟩, r86, -, r87, -, -⟩, -⟩ := id x
  have r89 := (rr 5 (by decide)).1
  have hsz : jh_I h 11 0 3 = nI sz := t0.1
  have hs17 : sz ≤ 1700 := t0.2.1
  refine jr_aload rfl rfl ?_
  refine jr_getL rfl rfl ?_
  rw [show jh_L h 11 0 10 = (7566702 : Int64) from (jT_what m0 (by decide) hK).trans jT_W18.symm]
  refine jr_lst1 rfl rfl ?_
  refine jr_aload rfl rfl ?_
  refine jr_getI rfl rfl ?_
  refine jr_ic rfl ?_
  rw [m0.2.2.1]
  refine jr_icmp_ne rfl (fun z => absurd (jT_mt3.mpr (show 100 ≤ jT_K B sz t by omega)) z) (fun _ => ?_)
  refine jr_aload rfl rfl ?_
  refine jr_cv0 (mc' := 0) (ms' := 0) rfl jm_MD_isFull_n jm_MD_isFull_f rfl rfl rfl rfl rfl rfl rfl (Nat.zero_le _) (Nat.zero_le _) ?_
  show jx_W (jm_MD_isFull, _, _, _, _, _, _) _ 0 0 0 [some _] [] _
  refine jr_aload rfl rfl ?_
  refine jr_lc rfl ?_
  refine jr_cv1 (mc' := 0) (ms' := 0) rfl jm_MD_isWord_n jm_MD_isWord_f rfl rfl rfl rfl rfl rfl rfl (Nat.zero_le _) (Nat.zero_le _) ?_
  refine eM_isWord (B := B) (sz := sz) (t := t) m0 (i := 0) (by decide) jT_W0 ?_
  refine jr_if_eq rfl (fun _ => ?_) (fun z => absurd (if_neg (by omega)) z)
  refine jr_aload rfl rfl ?_
  refine jr_lc rfl ?_
  refine jr_cv1 (mc' := 0) (ms' := 0) rfl jm_MD_isWord_n jm_MD_isWord_f rfl rfl rfl rfl rfl rfl rfl (Nat.zero_le _) (Nat.zero_le _) ?_
  refine eM_isWord (B := B) (sz := sz) (t := t) m0 (i := 9) (by decide) jT_W9 ?_
  refine jr_if_eq rfl (fun _ => ?_) (fun z => absurd (if_neg (by omega)) z)
  refine jr_aload rfl rfl ?_
  refine jr_lc rfl ?_
  refine jr_cv1 (mc' := 0) (ms' := 0) rfl jm_MD_isWord_n jm_MD_isWord_f rfl rfl rfl rfl rfl rfl rfl (Nat.zero_le _) (Nat.zero_le _) ?_
  refine eM_isWord (B := B) (sz := sz) (t := t) m0 (i := 12) (by decide) jT_W12 ?_
  refine jr_if_eq rfl (fun _ => ?_) (fun z => absurd (if_neg (by omega)) z)
  refine jr_aload rfl rfl ?_
  refine jr_lc rfl ?_
  refine jr_cv1 (mc' := 0) (ms' := 0) rfl jm_MD_isWord_n jm_MD_isWord_f rfl rfl rfl rfl rfl rfl rfl (Nat.zero_le _) (Nat.zero_le _) ?_
  refine eM_isWord (B := B) (sz := sz) (t := t) m0 (i := 18) (by decide) jT_W18 ?_
  refine jr_if_eq rfl (fun z => absurd z (by rw [if_pos hK]; decide)) (fun _ => ?_)
  refine jr_aload rfl rfl ?_
  refine jr_getR rfl rfl rfl rfl (Or.inl rfl) ?_
  refine jr_aload rfl rfl ?_
  refine jr_getI rfl rfl ?_
  refine jr_zald (len := 2) rfl rfl b0 (by omega) ?_
  rw [r85, hn]
  refine jr_zret rfl rfl rfl (Nat.zero_le _) (Nat.zero_le _) ?_
  refine jr_if_eq rfl (fun _ => ?_) (fun z => absurd (by decide) z)
  refine jr_aload rfl rfl ?_
  refine jr_cv0 (mc' := 0) (ms' := 0) rfl jm_MD_isGood_n jm_MD_isGood_f rfl rfl rfl rfl rfl rfl rfl (Nat.zero_le _) (Nat.zero_le _) ?_
  show jx_W (jm_MD_isGood, _, _, _, _, _, _) _ 0 0 0 [some _] [] _
  refine jr_aload rfl rfl ?_
  refine jr_getI rfl rfl ?_
  refine jr_if_ne rfl (fun z => absurd f0 z) (fun _ => ?_)
  refine jr_ic rfl ?_
  refine jr_goto rfl ?_
  refine jr_zret rfl rfl rfl (Nat.zero_le _) (Nat.zero_le _) ?_
  refine jr_if_ne rfl (fun _ => ?_) (fun z => absurd z (by decide))
  refine jr_aload rfl rfl ?_
  refine jr_cv0 (mc' := 0) (ms' := 0) rfl jm_MD_goOn_n jm_MD_goOn_f rfl rfl rfl rfl rfl rfl rfl (Nat.zero_le _) (Nat.zero_le _) ?_
  refine eM_goOn (B := B) (sz := sz) (t := t + 1) t0.1 t0.2.1 t0.2.2.1 m0.2.1 (fun h1 g1 m1 => ?_)
  have x1 := jML_G x g1 m1
  have F1 := jMF_G F g1
  refine jr_lload rfl rfl ?_
  refine jr_lc rfl ?_
  refine jr_lcmp rfl ?_
  refine jr_if_ne rfl (fun _ => ?_) (fun z => absurd z (by decide +kernel))
  refine jr_lload rfl rfl ?_
  refine jr_lc rfl ?_
  refine jr_lcmp rfl ?_
  refine jr_if_ne rfl (fun _ => ?_) (fun z => absurd z (by decide +kernel))
  refine jr_lload rfl rfl ?_
  refine jr_lc rfl ?_
  refine jr_lcmp rfl ?_
  refine jr_if_ne rfl (fun _ => ?_) (fun z => absurd z (by decide +kernel))
  refine jr_lload rfl rfl ?_
  refine jr_lc rfl ?_
  refine jr_lcmp rfl ?_
  refine jr_if_ne rfl (fun z => absurd (by decide +kernel) z) (fun _ => ?_)
  refine jr_aload rfl rfl ?_
  refine jr_cv0 (mc' := 0) (ms' := 0) rfl jm_MD_readSun_n jm_MD_readSun_f rfl rfl rfl rfl rfl rfl rfl (Nat.zero_le _) (Nat.zero_le _) ?_
  refine g (d + 11) _ _ _ x1 F1 (fun h2 F2 e2 p2 => ?_)
  refine jr_lload rfl rfl ?_
  refine jr_lc rfl ?_
  refine jr_lcmp rfl ?_
  refine jr_if_ne rfl (fun _ => ?_) (fun z => absurd z (by decide +kernel))
  refine jr_lload rfl rfl ?_
  refine jr_lc rfl ?_
  refine jr_lcmp rfl ?_
  refine jr_if_ne rfl (fun _ => ?_) (fun z => absurd z (by decide +kernel))
  refine jr_lload rfl rfl ?_
  refine jr_lc rfl ?_
  refine jr_lcmp rfl ?_
  refine jr_if_ne rfl (fun _ => ?_) (fun z => absurd z (by decide +kernel))
  exact eM_tail_b (sz := sz) (by rw [e2]; exact hk.1) p2 (((F2.2.2.2.2.2 3 (by decide)).trans (F.2.2.2.2.2 3 (by decide)).symm).trans hsz) hs17 hk.2 (k h2 F2 e2 p2)

set_option maxHeartbeats 800000 in
set_option maxRecDepth 100000 in
theorem eM_lnF_count {d : Nat} {h : jx_H} {Q : Option jx_V → jx_H → Prop} {h0 : jx_H} {B : Nat → Int32} {sz β t : Nat} {V : Nat → Nat → Nat} {W : Nat → Nat → List Nat} {D : Nat → Int32} (x : jML h B sz β t V W D) (F : jMF β h0 h) (hβ : β < 2) (hK : jT_K B sz t = 121) (hn : V 0 6 = 1) (k : ∀ h', jMF β h0 h' → jh_I h' 11 0 4 = jX_kd (jT_K B sz t) → jPl h' (jT_p B sz t) → Q none h')  : jx_Ev jm_MD_readLine (d + 20) 0 0 false 1 [jv_r 11 0] h Q := by
  show jx_W (jm_MD_readLine, d + 20, 0, 0, false, 1, _) Q 0 0 0 [some (jv_r 11 0), none, none] [] _
  obtain ⟨⟨t0, m0, f0, b0, -, -, -, -⟩, ⟨⟨r66, -⟩, ⟨r67, -⟩, ⟨r68, -⟩, rr, ⟨r85, -⟩, r86, -, r87, -, -⟩, -⟩ := id x
  have r89 := (rr 5 (by decide)).1
  have hsz : jh_I h 11 0 3 = nI sz := t0.1
  have hs17 : sz ≤ 1700 := t0.2.1
  refine jr_aload rfl rfl ?_
  refine jr_getL rfl rfl ?_
  refine jr_lst1 rfl rfl ?_
  refine jr_aload rfl rfl ?_
  refine jr_getI rfl rfl ?_
  refine jr_ic rfl ?_
  rw [m0.2.2.1]
  refine jr_icmp_ne rfl (fun z => absurd (jT_mt3.mpr (show 100 ≤ jT_K B sz t by omega)) z) (fun _ => ?_)
  refine jr_aload rfl rfl ?_
  refine jr_cv0 (mc' := 0) (ms' := 0) rfl jm_MD_isFull_n jm_MD_isFull_f rfl rfl rfl rfl rfl rfl rfl (Nat.zero_le _) (Nat.zero_le _) ?_
  show jx_W (jm_MD_isFull, _, _, _, _, _, _) _ 0 0 0 [some _] [] _
  refine jr_aload rfl rfl ?_
  refine jr_lc rfl ?_
  refine jr_cv1 (mc' := 0) (ms' := 0) rfl jm_MD_isWord_n jm_MD_isWord_f rfl rfl rfl rfl rfl rfl rfl (Nat.zero_le _) (Nat.zero_le _) ?_
  refine eM_isWord (B := B) (sz := sz) (t := t) m0 (i := 0) (by decide) jT_W0 ?_
  refine jr_if_eq rfl (fun _ => ?_) (fun z => absurd (if_neg (by omega)) z)
  refine jr_aload rfl rfl ?_
  refine jr_lc rfl ?_
  refine jr_cv1 (mc' := 0) (ms' := 0) rfl jm_MD_isWord_n jm_MD_isWord_f rfl rfl rfl rfl rfl rfl rfl (Nat.zero_le _) (Nat.zero_le _) ?_
  refine eM_isWord (B := B) (sz := sz) (t := t) m0 (i := 9) (by decide) jT_W9 ?_
  refine jr_if_eq rfl (fun _ => ?_) (fun z => absurd (if_neg (by omega)) z)
  refine jr_aload rfl rfl ?_
  refine jr_lc rfl ?_
  refine jr_cv1 (mc' := 0) (ms' := 0) rfl jm_MD_isWord_n jm_MD_isWord_f rfl rfl rfl rfl rfl rfl rfl (Nat.zero_le _) (Nat.zero_le _) ?_
  refine eM_isWord (B := B) (sz := sz) (t := t) m0 (i := 12) (by decide) jT_W12 ?_
  refine jr_if_eq rfl (fun _ => ?_) (fun z => absurd (if_neg (by omega)) z)
  refine jr_aload rfl rfl ?_
  refine jr_lc rfl ?_
  refine jr_cv1 (mc' := 0) (ms' := 0) rfl jm_MD_isWord_n jm_MD_isWord_f rfl rfl rfl rfl rfl rfl rfl (Nat.zero_le _) (Nat.zero_le _) ?_
  refine eM_isWord (B := B) (sz := sz) (t := t) m0 (i := 18) (by decide) jT_W18 ?_
  refine jr_if_eq rfl (fun _ => ?_) (fun z => absurd (if_neg (by omega)) z)
  refine jr_aload rfl rfl ?_
  refine jr_lc rfl ?_
  refine jr_cv1 (mc' := 0) (ms' := 0) rfl jm_MD_isWord_n jm_MD_isWord_f rfl rfl rfl rfl rfl rfl rfl (Nat.zero_le _) (Nat.zero_le _) ?_
  refine eM_isWord (B := B) (sz := sz) (t := t) m0 (i := 21) (by decide) jT_W21 ?_
  refine jr_if_eq rfl (fun z => absurd z (by rw [if_pos hK]; decide)) (fun _ => ?_)
  refine jr_aload rfl rfl ?_
  refine jr_getR rfl rfl rfl rfl (Or.inl rfl) ?_
  refine jr_aload rfl rfl ?_
  refine jr_getI rfl rfl ?_
  refine jr_zald (len := 2) rfl rfl b0 (by omega) ?_
  rw [r86, hn]
  refine jr_zret rfl rfl rfl (Nat.zero_le _) (Nat.zero_le _) ?_
  refine jr_if_eq rfl (fun z => absurd z (by decide)) (fun _ => ?_)
  refine jr_aload rfl rfl ?_
  refine jr_cv0 (mc' := 0) (ms' := 0) rfl jm_MD_misplaced_n jm_MD_misplaced_f rfl rfl rfl rfl rfl rfl rfl (Nat.zero_le _) (Nat.zero_le _) ?_
  refine eM_misplaced (B := B) (sz := sz) (t := t) f0 m0 (fun h1 g1 => ?_)
  refine jr_aload rfl rfl ?_
  refine jr_cv0 (mc' := 0) (ms' := 0) rfl jm_MD_isGood_n jm_MD_isGood_f rfl rfl rfl rfl rfl rfl rfl (Nat.zero_le _) (Nat.zero_le _) ?_
  show jx_W (jm_MD_isGood, _, _, _, _, _, _) _ 0 0 0 [some _] [] _
  refine jr_aload rfl rfl ?_
  refine jr_getI rfl rfl ?_
  refine jr_if_ne rfl (fun _ => ?_) (fun z => absurd z (by rw [g1.2.2.2.1]; exact jX_kd_n _))
  refine jr_ic rfl ?_
  refine jr_zret rfl rfl rfl (Nat.zero_le _) (Nat.zero_le _) ?_
  refine jr_if_ne rfl (fun z => absurd (by decide) z) (fun _ => ?_)
  refine jr_vret rfl rfl (Nat.zero_le _) (Nat.zero_le _) ?_
  exact k h1 (jMF_ft F g1) g1.2.2.2.1 g1.2.2.2.2

set_option maxHeartbeats 800000 in
set_option maxRecDepth 100000 in
theorem eM_lnG_count {d : Nat} {h : jx_H} {Q : Option jx_V → jx_H → Prop} {h0 : jx_H} {B : Nat → Int32} {sz β t : Nat} {V : Nat → Nat → Nat} {W : Nat → Nat → List Nat} {D : Nat → Int32} {t2 : Nat} {V2 : Nat → Nat → Nat} {W2 : Nat → Nat → List Nat} {D2 : Nat → Int32} (x : jML h B sz β t V W D) (F : jMF β h0 h) (hβ : β < 2) (hK : jT_K B sz t = 121) (hn : V 0 6 = 0) (g : jLG jm_MD_readCount 8 B sz β (t + 1) V W D t2 V2 W2 D2) (k : ∀ h', jMF β h0 h' → jML h' B sz β t2 V2 W2 D2 → jq_RL d (jh_n h) Q 427071729268 82 h')  : jx_Ev jm_MD_readLine (d + 20) 0 0 false 1 [jv_r 11 0] h Q := by
  show jx_W (jm_MD_readLine, d + 20, 0, 0, false, 1, _) Q 0 0 0 [some (jv_r 11 0), none, none] [] _
  obtain ⟨⟨t0, m0, f0, b0, -, -, -, -⟩, ⟨⟨r66, -⟩, ⟨r67, -⟩, ⟨r68, -⟩, rr, ⟨r85, -⟩, r86, -, r87, -, -⟩, -⟩ := id x
  have r89 := (rr 5 (by decide)).1
  have hsz : jh_I h 11 0 3 = nI sz := t0.1
  have hs17 : sz ≤ 1700 := t0.2.1
  refine jr_aload rfl rfl ?_
  refine jr_getL rfl rfl ?_
  rw [show jh_L h 11 0 10 = (427071729268 : Int64) from (jT_what m0 (by decide) hK).trans jT_W21.symm]
  refine jr_lst1 rfl rfl ?_
  refine jr_aload rfl rfl ?_
  refine jr_getI rfl rfl ?_
  refine jr_ic rfl ?_
  rw [m0.2.2.1]
  refine jr_icmp_ne rfl (fun z => absurd (jT_mt3.mpr (show 100 ≤ jT_K B sz t by omega)) z) (fun _ => ?_)
  refine jr_aload rfl rfl ?_
  refine jr_cv0 (mc' := 0) (ms' := 0) rfl jm_MD_isFull_n jm_MD_isFull_f rfl rfl rfl rfl rfl rfl rfl (Nat.zero_le _) (Nat.zero_le _) ?_
  show jx_W (jm_MD_isFull, _, _, _, _, _, _) _ 0 0 0 [some _] [] _
  refine jr_aload rfl rfl ?_
  refine jr_lc rfl ?_
  refine jr_cv1 (mc' := 0) (ms' := 0) rfl jm_MD_isWord_n jm_MD_isWord_f rfl rfl rfl rfl rfl rfl rfl (Nat.zero_le _) (Nat.zero_le _) ?_
  refine eM_isWord (B := B) (sz := sz) (t := t) m0 (i := 0) (by decide) jT_W0 ?_
  refine jr_if_eq rfl (fun _ => ?_) (fun z => absurd (if_neg (by omega)) z)
  refine jr_aload rfl rfl ?_
  refine jr_lc rfl ?_
  refine jr_cv1 (mc' := 0) (ms' := 0) rfl jm_MD_isWord_n jm_MD_isWord_f rfl rfl rfl rfl rfl rfl rfl (Nat.zero_le _) (Nat.zero_le _) ?_
  refine eM_isWord (B := B) (sz := sz) (t := t) m0 (i := 9) (by decide) jT_W9 ?_
  refine jr_if_eq rfl (fun _ => ?_) (fun z => absurd (if_neg (by omega)) z)
  refine jr_aload rfl rfl ?_
  refine jr_lc rfl ?_
  refine jr_cv1 (mc' := 0) (ms' := 0) rfl jm_MD_isWord_n jm_MD_isWord_f rfl rfl rfl rfl rfl rfl rfl (Nat.zero_le _) (Nat.zero_le _) ?_
  refine eM_isWord (B := B) (sz := sz) (t := t) m0 (i := 12) (by decide) jT_W12 ?_
  refine jr_if_eq rfl (fun _ => ?_) (fun z => absurd (if_neg (by omega)) z)
  refine jr_aload rfl rfl ?_
  refine jr_lc rfl ?_
  refine jr_cv1 (mc' := 0) (ms' := 0) rfl jm_MD_isWord_n jm_MD_isWord_f rfl rfl rfl rfl rfl rfl rfl (Nat.zero_le _) (Nat.zero_le _) ?_
  refine eM_isWord (B := B) (sz := sz) (t := t) m0 (i := 18) (by decide) jT_W18 ?_
  refine jr_if_eq rfl (fun _ => ?_) (fun z => absurd (if_neg (by omega)) z)
  refine jr_aload rfl rfl ?_
  refine jr_lc rfl ?_
  refine jr_cv1 (mc' := 0) (ms' := 0) rfl jm_MD_isWord_n jm_MD_isWord_f rfl rfl rfl rfl rfl rfl rfl (Nat.zero_le _) (Nat.zero_le _) ?_
  refine eM_isWord (B := B) (sz := sz) (t := t) m0 (i := 21) (by decide) jT_W21 ?_
  refine jr_if_eq rfl (fun z => absurd z (by rw [if_pos hK]; decide)) (fun _ => ?_)
  refine jr_aload rfl rfl ?_
  refine jr_getR rfl rfl rfl rfl (Or.inl rfl) ?_
  refine jr_aload rfl rfl ?_
  refine jr_getI rfl rfl ?_
  refine jr_zald (len := 2) rfl rfl b0 (by omega) ?_
  rw [r86, hn]
  refine jr_zret rfl rfl rfl (Nat.zero_le _) (Nat.zero_le _) ?_
  refine jr_if_eq rfl (fun _ => ?_) (fun z => absurd (by decide) z)
  refine jr_aload rfl rfl ?_
  refine jr_cv0 (mc' := 0) (ms' := 0) rfl jm_MD_isGood_n jm_MD_isGood_f rfl rfl rfl rfl rfl rfl rfl (Nat.zero_le _) (Nat.zero_le _) ?_
  show jx_W (jm_MD_isGood, _, _, _, _, _, _) _ 0 0 0 [some _] [] _
  refine jr_aload rfl rfl ?_
  refine jr_getI rfl rfl ?_
  refine jr_if_ne rfl (fun z => absurd f0 z) (fun _ => ?_)
  refine jr_ic rfl ?_
  refine jr_goto rfl ?_
  refine jr_zret rfl rfl rfl (Nat.zero_le _) (Nat.zero_le _) ?_
  refine jr_if_ne rfl (fun _ => ?_) (fun z => absurd z (by decide))
  refine jr_aload rfl rfl ?_
  refine jr_cv0 (mc' := 0) (ms' := 0) rfl jm_MD_goOn_n jm_MD_goOn_f rfl rfl rfl rfl rfl rfl rfl (Nat.zero_le _) (Nat.zero_le _) ?_
  refine eM_goOn (B := B) (sz := sz) (t := t + 1) t0.1 t0.2.1 t0.2.2.1 m0.2.1 (fun h1 g1 m1 => ?_)
  have x1 := jML_G x g1 m1
  have F1 := jMF_G F g1
  refine jr_lload rfl rfl ?_
  refine jr_lc rfl ?_
  refine jr_lcmp rfl ?_
  refine jr_if_ne rfl (fun _ => ?_) (fun z => absurd z (by decide +kernel))
  refine jr_lload rfl rfl ?_
  refine jr_lc rfl ?_
  refine jr_lcmp rfl ?_
  refine jr_if_ne rfl (fun _ => ?_) (fun z => absurd z (by decide +kernel))
  refine jr_lload rfl rfl ?_
  refine jr_lc rfl ?_
  refine jr_lcmp rfl ?_
  refine jr_if_ne rfl (fun _ => ?_) (fun z => absurd z (by decide +kernel))
  refine jr_lload rfl rfl ?_
  refine jr_lc rfl ?_
  refine jr_lcmp rfl ?_
  refine jr_if_ne rfl (fun _ => ?_) (fun z => absurd z (by decide +kernel))
  refine jr_lload rfl rfl ?_
  refine jr_lc rfl ?_
  refine jr_lcmp rfl ?_
  refine jr_if_ne rfl (fun z => absurd (by decide +kernel) z) (fun _ => ?_)
  refine jr_aload rfl rfl ?_
  refine jr_cv0 (mc' := 0) (ms' := 0) rfl jm_MD_readCount_n jm_MD_readCount_f rfl rfl rfl rfl rfl rfl rfl (Nat.zero_le _) (Nat.zero_le _) ?_
  refine g (d + 11) _ _ _ x1 F1 (fun h2 F2 x2 => ?_)
  refine jr_lload rfl rfl ?_
  refine jr_lc rfl ?_
  refine jr_lcmp rfl ?_
  refine jr_if_ne rfl (fun _ => ?_) (fun z => absurd z (by decide +kernel))
  refine jr_lload rfl rfl ?_
  refine jr_lc rfl ?_
  refine jr_lcmp rfl ?_
  refine jr_if_ne rfl (fun _ => ?_) (fun z => absurd z (by decide +kernel))
  exact k h2 F2 x2

set_option maxHeartbeats 800000 in
set_option maxRecDepth 100000 in
theorem eM_lnB_count {d : Nat} {h : jx_H} {Q : Option jx_V → jx_H → Prop} {h0 : jx_H} {B : Nat → Int32} {sz β t : Nat} {V : Nat → Nat → Nat} {W : Nat → Nat → List Nat} {D : Nat → Int32} {kd : Int32} {pl : Nat} (x : jML h B sz β t V W D) (F : jMF β h0 h) (hβ : β < 2) (hK : jT_K B sz t = 121) (hn : V 0 6 = 0) (hk : jFk sz kd pl) (g : jLB jm_MD_readCount 8 B sz β (t + 1) V W D kd pl) (k : ∀ h', jMF β h0 h' → jh_I h' 11 0 4 = kd → jPl h' pl → Q none h')  : jx_Ev jm_MD_readLine (d + 20) 0 0 false 1 [jv_r 11 0] h Q := by
  show jx_W (jm_MD_readLine, d + 20, 0, 0, false, 1, _) Q 0 0 0 [some (jv_r 11 0), none, none] [] _
  obtain ⟨⟨t0, m0, f0, b0, -, -, -, -⟩, ⟨⟨r66, -⟩, ⟨r67, -⟩, ⟨r68, -⟩, rr, ⟨r85, -⟩, r86, -, r87, -, -⟩, -⟩ := id x
  have r89 := (rr 5 (by decide)).1
  have hsz : jh_I h 11 0 3 = nI sz := t0.1
  have hs17 : sz ≤ 1700 := t0.2.1
  refine jr_aload rfl rfl ?_
  refine jr_getL rfl rfl ?_
  rw [show jh_L h 11 0 10 = (427071729268 : Int64) from (jT_what m0 (by decide) hK).trans jT_W21.symm]
  refine jr_lst1 rfl rfl ?_
  refine jr_aload rfl rfl ?_
  refine jr_getI rfl rfl ?_
  refine jr_ic rfl ?_
  rw [m0.2.2.1]
  refine jr_icmp_ne rfl (fun z => absurd (jT_mt3.mpr (show 100 ≤ jT_K B sz t by omega)) z) (fun _ => ?_)
  refine jr_aload rfl rfl ?_
  refine jr_cv0 (mc' := 0) (ms' := 0) rfl jm_MD_isFull_n jm_MD_isFull_f rfl rfl rfl rfl rfl rfl rfl (Nat.zero_le _) (Nat.zero_le _) ?_
  show jx_W (jm_MD_isFull, _, _, _, _, _, _) _ 0 0 0 [some _] [] _
  refine jr_aload rfl rfl ?_
  refine jr_lc rfl ?_
  refine jr_cv1 (mc' := 0) (ms' := 0) rfl jm_MD_isWord_n jm_MD_isWord_f rfl rfl rfl rfl rfl rfl rfl (Nat.zero_le _) (Nat.zero_le _) ?_
  refine eM_isWord (B := B) (sz := sz) (t := t) m0 (i := 0) (by decide) jT_W0 ?_
  refine jr_if_eq rfl (fun _ => ?_) (fun z => absurd (if_neg (by omega)) z)
  refine jr_aload rfl rfl ?_
  refine jr_lc rfl ?_
  refine jr_cv1 (mc' := 0) (ms' := 0) rfl jm_MD_isWord_n jm_MD_isWord_f rfl rfl rfl rfl rfl rfl rfl (Nat.zero_le _) (Nat.zero_le _) ?_
  refine eM_isWord (B := B) (sz := sz) (t := t) m0 (i := 9) (by decide) jT_W9 ?_
  refine jr_if_eq rfl (fun _ => ?_) (fun z => absurd (if_neg (by omega)) z)
  refine jr_aload rfl rfl ?_
  refine jr_lc rfl ?_
  refine jr_cv1 (mc' := 0) (ms' := 0) rfl jm_MD_isWord_n jm_MD_isWord_f rfl rfl rfl rfl rfl rfl rfl (Nat.zero_le _) (Nat.zero_le _) ?_
  refine eM_isWord (B := B) (sz := sz) (t := t) m0 (i := 12) (by decide) jT_W12 ?_
  refine jr_if_eq rfl (fun _ => ?_) (fun z => absurd (if_neg (by omega)) z)
  refine jr_aload rfl rfl ?_
  refine jr_lc rfl ?_
  refine jr_cv1 (mc' := 0) (ms' := 0) rfl jm_MD_isWord_n jm_MD_isWord_f rfl rfl rfl rfl rfl rfl rfl (Nat.zero_le _) (Nat.zero_le _) ?_
  refine eM_isWord (B := B) (sz := sz) (t := t) m0 (i := 18) (by decide) jT_W18 ?_
  refine jr_if_eq rfl (fun _ => ?_) (fun z => absurd (if_neg (by omega)) z)
  refine jr_aload rfl rfl ?_
  refine jr_lc rfl ?_
  refine jr_cv1 (mc' := 0) (ms' := 0) rfl jm_MD_isWord_n jm_MD_isWord_f rfl rfl rfl rfl rfl rfl rfl (Nat.zero_le _) (Nat.zero_le _) ?_
  refine eM_isWord (B := B) (sz := sz) (t := t) m0 (i := 21) (by decide) jT_W21 ?_
  refine jr_if_eq rfl (fun z => absurd z (by rw [if_pos hK]; decide)) (fun _ => ?_)
  refine jr_aload rfl rfl ?_
  refine jr_getR rfl rfl rfl rfl (Or.inl rfl) ?_
  refine jr_aload rfl rfl ?_
  refine jr_getI rfl rfl ?_
  refine jr_zald (len := 2) rfl rfl b0 (by omega) ?_
  rw [r86, hn]
  refine jr_zret rfl rfl rfl (Nat.zero_le _) (Nat.zero_le _) ?_
  refine jr_if_eq rfl (fun _ => ?_) (fun z => absurd (by decide) z)
  refine jr_aload rfl rfl ?_
  refine jr_cv0 (mc' := 0) (ms' := 0) rfl jm_MD_isGood_n jm_MD_isGood_f rfl rfl rfl rfl rfl rfl rfl (Nat.zero_le _) (Nat.zero_le _) ?_
  show jx_W (jm_MD_isGood, _, _, _, _, _, _) _ 0 0 0 [some _] [] _
  refine jr_aload rfl rfl ?_
  refine jr_getI rfl rfl ?_
  refine jr_if_ne rfl (fun z => absurd f0 z) (fun _ => ?_)
  refine jr_ic rfl ?_
  refine jr_goto rfl ?_
  refine jr_zret rfl rfl rfl (Nat.zero_le _) (Nat.zero_le _) ?_
  refine jr_if_ne rfl (fun _ => ?_) (fun z => absurd z (by decide))
  refine jr_aload rfl rfl ?_
  refine jr_cv0 (mc' := 0) (ms' := 0) rfl jm_MD_goOn_n jm_MD_goOn_f rfl rfl rfl rfl rfl rfl rfl (Nat.zero_le _) (Nat.zero_le _) ?_
  refine eM_goOn (B := B) (sz := sz) (t := t + 1) t0.1 t0.2.1 t0.2.2.1 m0.2.1 (fun h1 g1 m1 => ?_)
  have x1 := jML_G x g1 m1
  have F1 := jMF_G F g1
  refine jr_lload rfl rfl ?_
  refine jr_lc rfl ?_
  refine jr_lcmp rfl ?_
  refine jr_if_ne rfl (fun _ => ?_) (fun z => absurd z (by decide +kernel))
  refine jr_lload rfl rfl ?_
  refine jr_lc rfl ?_
  refine jr_lcmp rfl ?_
  refine jr_if_ne rfl (fun _ => ?_) (fun z => absurd z (by decide +kernel))
  refine jr_lload rfl rfl ?_
  refine jr_lc rfl ?_
  refine jr_lcmp rfl ?_
  refine jr_if_ne rfl (fun _ => ?_) (fun z => absurd z (by decide +kernel))
  refine jr_lload rfl rfl ?_
  refine jr_lc rfl ?_
  refine jr_lcmp rfl ?_
  refine jr_if_ne rfl (fun _ => ?_) (fun z => absurd z (by decide +kernel))
  refine jr_lload rfl rfl ?_
  refine jr_lc rfl ?_
  refine jr_lcmp rfl ?_
  refine jr_if_ne rfl (fun z => absurd (by decide +kernel) z) (fun _ => ?_)
  refine jr_aload rfl rfl ?_
  refine jr_cv0 (mc' := 0) (ms' := 0) rfl jm_MD_readCount_n jm_MD_readCount_f rfl rfl rfl rfl rfl rfl rfl (Nat.zero_le _) (Nat.zero_le _) ?_
  refine g (d + 11) _ _ _ x1 F1 (fun h2 F2 e2 p2 => ?_)
  refine jr_lload rfl rfl ?_
  refine jr_lc rfl ?_
  refine jr_lcmp rfl ?_
  refine jr_if_ne rfl (fun _ => ?_) (fun z => absurd z (by decide +kernel))
  refine jr_lload rfl rfl ?_
  refine jr_lc rfl ?_
  refine jr_lcmp rfl ?_
  refine jr_if_ne rfl (fun _ => ?_) (fun z => absurd z (by decide +kernel))
  exact eM_tail_b (sz := sz) (by rw [e2]; exact hk.1) p2 (((F2.2.2.2.2.2 3 (by decide)).trans (F.2.2.2.2.2 3 (by decide)).symm).trans hsz) hs17 hk.2 (k h2 F2 e2 p2)

set_option maxHeartbeats 800000 in
set_option maxRecDepth 100000 in
theorem eM_lnF_week {d : Nat} {h : jx_H} {Q : Option jx_V → jx_H → Prop} {h0 : jx_H} {B : Nat → Int32} {sz β t : Nat} {V : Nat → Nat → Nat} {W : Nat → Nat → List Nat} {D : Nat → Int32} (x : jML h B sz β t V W D) (F : jMF β h0 h) (hβ : β < 2) (hK : jT_K B sz t = 125) (hn : V 0 7 = 1) (k : ∀ h', jMF β h0 h' → jh_I h' 11 0 4 = jX_kd (jT_K B sz t) → jPl h' (jT_p B sz t) → Q none h')  : jx_Ev jm_MD_readLine (d + 20) 0 0 false 1 [jv_r 11 0] h Q := by
  show jx_W (jm_MD_readLine, d + 20, 0, 0, false, 1, _) Q 0 0 0 [some (jv_r 11 0), none, none] [] _
  obtain ⟨⟨t0, m0, f0, b0, -, -, -, -⟩, ⟨⟨r66, -⟩, ⟨r67, -⟩, ⟨r68, -⟩, rr, ⟨r85, -⟩, r86, -, r87, -, -⟩, -⟩ := id x
  have r89 := (rr 5 (by decide)).1
  have hsz : jh_I h 11 0 3 = nI sz := t0.1
  have hs17 : sz ≤ 1700 := t0.2.1
  refine jr_aload rfl rfl ?_
  refine jr_getL rfl rfl ?_
  refine jr_lst1 rfl rfl ?_
  refine jr_aload rfl rfl ?_
  refine jr_getI rfl rfl ?_
  refine jr_ic rfl ?_
  rw [m0.2.2.1]
  refine jr_icmp_ne rfl (fun z => absurd (jT_mt3.mpr (show 100 ≤ jT_K B sz t by omega)) z) (fun _ => ?_)
  refine jr_aload rfl rfl ?_
  refine jr_cv0 (mc' := 0) (ms' := 0) rfl jm_MD_isFull_n jm_MD_isFull_f rfl rfl rfl rfl rfl rfl rfl (Nat.zero_le _) (Nat.zero_le _) ?_
  show jx_W (jm_MD_isFull, _, _, _, _, _, _) _ 0 0 0 [some _] [] _
  refine jr_aload rfl rfl ?_
  refine jr_lc rfl ?_
  refine jr_cv1 (mc' := 0) (ms' := 0) rfl jm_MD_isWord_n jm_MD_isWord_f rfl rfl rfl rfl rfl rfl rfl (Nat.zero_le _) (Nat.zero_le _) ?_
  refine eM_isWord (B := B) (sz := sz) (t := t) m0 (i := 0) (by decide) jT_W0 ?_
  refine jr_if_eq rfl (fun _ => ?_) (fun z => absurd (if_neg (by omega)) z)
  refine jr_aload rfl rfl ?_
  refine jr_lc rfl ?_
  refine jr_cv1 (mc' := 0) (ms' := 0) rfl jm_MD_isWord_n jm_MD_isWord_f rfl rfl rfl rfl rfl rfl rfl (Nat.zero_le _) (Nat.zero_le _) ?_
  refine eM_isWord (B := B) (sz := sz) (t := t) m0 (i := 9) (by decide) jT_W9 ?_
  refine jr_if_eq rfl (fun _ => ?_) (fun z => absurd (if_neg (by omega)) z)
  refine jr_aload rfl rfl ?_
  refine jr_lc rfl ?_
  refine jr_cv1 (mc' := 0) (ms' := 0) rfl jm_MD_isWord_n jm_MD_isWord_f rfl rfl rfl rfl rfl rfl rfl (Nat.zero_le _) (Nat.zero_le _) ?_
  refine eM_isWord (B := B) (sz := sz) (t := t) m0 (i := 12) (by decide) jT_W12 ?_
  refine jr_if_eq rfl (fun _ => ?_) (fun z => absurd (if_neg (by omega)) z)
  refine jr_aload rfl rfl ?_
  refine jr_lc rfl ?_
  refine jr_cv1 (mc' := 0) (ms' := 0) rfl jm_MD_isWord_n jm_MD_isWord_f rfl rfl rfl rfl rfl rfl rfl (Nat.zero_le _) (Nat.zero_le _) ?_
  refine eM_isWord (B := B) (sz := sz) (t := t) m0 (i := 18) (by decide) jT_W18 ?_
  refine jr_if_eq rfl (fun _ => ?_) (fun z => absurd (if_neg (by omega)) z)
  refine jr_aload rfl rfl ?_
  refine jr_lc rfl ?_
  refine jr_cv1 (mc' := 0) (ms' := 0) rfl jm_MD_isWord_n jm_MD_isWord_f rfl rfl rfl rfl rfl rfl rfl (Nat.zero_le _) (Nat.zero_le _) ?_
  refine eM_isWord (B := B) (sz := sz) (t := t) m0 (i := 21) (by decide) jT_W21 ?_
  refine jr_if_eq rfl (fun _ => ?_) (fun z => absurd (if_neg (by omega)) z)
  refine jr_aload rfl rfl ?_
  refine jr_lc rfl ?_
  refine jr_cv1 (mc' := 0) (ms' := 0) rfl jm_MD_isWord_n jm_MD_isWord_f rfl rfl rfl rfl rfl rfl rfl (Nat.zero_le _) (Nat.zero_le _) ?_
  refine eM_isWord (B := B) (sz := sz) (t := t) m0 (i := 25) (by decide) jT_W25 ?_
  refine jr_if_eq rfl (fun z => absurd z (by rw [if_pos hK]; decide)) (fun _ => ?_)
  refine jr_aload rfl rfl ?_
  refine jr_getR rfl rfl rfl rfl (Or.inl rfl) ?_
  refine jr_aload rfl rfl ?_
  refine jr_getI rfl rfl ?_
  refine jr_zald (len := 2) rfl rfl b0 (by omega) ?_
  rw [r87, hn]
  refine jr_zret rfl rfl rfl (Nat.zero_le _) (Nat.zero_le _) ?_
  refine jr_if_eq rfl (fun z => absurd z (by decide)) (fun _ => ?_)
  refine jr_aload rfl rfl ?_
  refine jr_cv0 (mc' := 0) (ms' := 0) rfl jm_MD_misplaced_n jm_MD_misplaced_f rfl rfl rfl rfl rfl rfl rfl (Nat.zero_le _) (Nat.zero_le _) ?_
  refine eM_misplaced (B := B) (sz := sz) (t := t) f0 m0 (fun h1 g1 => ?_)
  refine jr_aload rfl rfl ?_
  refine jr_cv0 (mc' := 0) (ms' := 0) rfl jm_MD_isGood_n jm_MD_isGood_f rfl rfl rfl rfl rfl rfl rfl (Nat.zero_le _) (Nat.zero_le _) ?_
  show jx_W (jm_MD_isGood, _, _, _, _, _, _) _ 0 0 0 [some _] [] _
  refine jr_aload rfl rfl ?_
  refine jr_getI rfl rfl ?_
  refine jr_if_ne rfl (fun _ => ?_) (fun z => absurd z (by rw [g1.2.2.2.1]; exact jX_kd_n _))
  refine jr_ic rfl ?_
  refine jr_zret rfl rfl rfl (Nat.zero_le _) (Nat.zero_le _) ?_
  refine jr_if_ne rfl (fun z => absurd (by decide) z) (fun _ => ?_)
  refine jr_vret rfl rfl (Nat.zero_le _) (Nat.zero_le _) ?_
  exact k h1 (jMF_ft F g1) g1.2.2.2.1 g1.2.2.2.2

set_option maxHeartbeats 800000 in
set_option maxRecDepth 100000 in
theorem eM_lnG_week {d : Nat} {h : jx_H} {Q : Option jx_V → jx_H → Prop} {h0 : jx_H} {B : Nat → Int32} {sz β t : Nat} {V : Nat → Nat → Nat} {W : Nat → Nat → List Nat} {D : Nat → Int32} {t2 : Nat} {V2 : Nat → Nat → Nat} {W2 : Nat → Nat → List Nat} {D2 : Nat → Int32} (x : jML h B sz β t V W D) (F : jMF β h0 h) (hβ : β < 2) (hK : jT_K B sz t = 125) (hn : V 0 7 = 0) (g : ∀ (d n0 : Nat) (what : Int64) (h1 hm : jx_H) (Qm : Option jx_V → jx_H → Prop), jML hm B sz β (t + 1) V W D → jMF β h1 hm → (∀ h', jMF β h1 h' → jML h' B sz β t2 V2 W2 D2 → jq_RL d n0 Qm what 82 h') → jq_RL d n0 Qm what 59 hm) (k : ∀ h', jMF β h0 h' → jML h' B sz β t2 V2 W2 D2 → jq_RL d (jh_n h) Q 2003133803 82 h')  : jx_Ev jm_MD_readLine (d + 20) 0 0 false 1 [jv_r 11 0] h Q := by
  show jx_W (jm_MD_readLine, d + 20, 0, 0, false, 1, _) Q 0 0 0 [some (jv_r 11 0), none, none] [] _
  obtain ⟨⟨t0, m0, f0, b0, -, -, -, -⟩, ⟨⟨r66, -⟩, ⟨r67, -⟩, ⟨r68, -⟩, rr, ⟨r85, -⟩, r86, -, r87, -, -⟩, -⟩ := id x
  have r89 := (rr 5 (by decide)).1
  have hsz : jh_I h 11 0 3 = nI sz := t0.1
  have hs17 : sz ≤ 1700 := t0.2.1
  refine jr_aload rfl rfl ?_
  refine jr_getL rfl rfl ?_
  rw [show jh_L h 11 0 10 = (2003133803 : Int64) from (jT_what m0 (by decide) hK).trans jT_W25.symm]
  refine jr_lst1 rfl rfl ?_
  refine jr_aload rfl rfl ?_
  refine jr_getI rfl rfl ?_
  refine jr_ic rfl ?_
  rw [m0.2.2.1]
  refine jr_icmp_ne rfl (fun z => absurd (jT_mt3.mpr (show 100 ≤ jT_K B sz t by omega)) z) (fun _ => ?_)
  refine jr_aload rfl rfl ?_
  refine jr_cv0 (mc' := 0) (ms' := 0) rfl jm_MD_isFull_n jm_MD_isFull_f rfl rfl rfl rfl rfl rfl rfl (Nat.zero_le _) (Nat.zero_le _) ?_
  show jx_W (jm_MD_isFull, _, _, _, _, _, _) _ 0 0 0 [some _] [] _
  refine jr_aload rfl rfl ?_
  refine jr_lc rfl ?_
  refine jr_cv1 (mc' := 0) (ms' := 0) rfl jm_MD_isWord_n jm_MD_isWord_f rfl rfl rfl rfl rfl rfl rfl (Nat.zero_le _) (Nat.zero_le _) ?_
  refine eM_isWord (B := B) (sz := sz) (t := t) m0 (i := 0) (by decide) jT_W0 ?_
  refine jr_if_eq rfl (fun _ => ?_) (fun z => absurd (if_neg (by omega)) z)
  refine jr_aload rfl rfl ?_
  refine jr_lc rfl ?_
  refine jr_cv1 (mc' := 0) (ms' := 0) rfl jm_MD_isWord_n jm_MD_isWord_f rfl rfl rfl rfl rfl rfl rfl (Nat.zero_le _) (Nat.zero_le _) ?_
  refine eM_isWord (B := B) (sz := sz) (t := t) m0 (i := 9) (by decide) jT_W9 ?_
  refine jr_if_eq rfl (fun _ => ?_) (fun z => absurd (if_neg (by omega)) z)
  refine jr_aload rfl rfl ?_
  refine jr_lc rfl ?_
  refine jr_cv1 (mc' := 0) (ms' := 0) rfl jm_MD_isWord_n jm_MD_isWord_f rfl rfl rfl rfl rfl rfl rfl (Nat.zero_le _) (Nat.zero_le _) ?_
  refine eM_isWord (B := B) (sz := sz) (t := t) m0 (i := 12) (by decide) jT_W12 ?_
  refine jr_if_eq rfl (fun _ => ?_) (fun z => absurd (if_neg (by omega)) z)
  refine jr_aload rfl rfl ?_
  refine jr_lc rfl ?_
  refine jr_cv1 (mc' := 0) (ms' := 0) rfl jm_MD_isWord_n jm_MD_isWord_f rfl rfl rfl rfl rfl rfl rfl (Nat.zero_le _) (Nat.zero_le _) ?_
  refine eM_isWord (B := B) (sz := sz) (t := t) m0 (i := 18) (by decide) jT_W18 ?_
  refine jr_if_eq rfl (fun _ => ?_) (fun z => absurd (if_neg (by omega)) z)
  refine jr_aload rfl rfl ?_
  refine jr_lc rfl ?_
  refine jr_cv1 (mc' := 0) (ms' := 0) rfl jm_MD_isWord_n jm_MD_isWord_f rfl rfl rfl rfl rfl rfl rfl (Nat.zero_le _) (Nat.zero_le _) ?_
  refine eM_isWord (B := B) (sz := sz) (t := t) m0 (i := 21) (by decide) jT_W21 ?_
  refine jr_if_eq rfl (fun _ => ?_) (fun z => absurd (if_neg (by omega)) z)
  refine jr_aload rfl rfl ?_
  refine jr_lc rfl ?_
  refine jr_cv1 (mc' := 0) (ms' := 0) rfl jm_MD_isWord_n jm_MD_isWord_f rfl rfl rfl rfl rfl rfl rfl (Nat.zero_le _) (Nat.zero_le _) ?_
  refine eM_isWord (B := B) (sz := sz) (t := t) m0 (i := 25) (by decide) jT_W25 ?_
  refine jr_if_eq rfl (fun z => absurd z (by rw [if_pos hK]; decide)) (fun _ => ?_)
  refine jr_aload rfl rfl ?_
  refine jr_getR rfl rfl rfl rfl (Or.inl rfl) ?_
  refine jr_aload rfl rfl ?_
  refine jr_getI rfl rfl ?_
  refine jr_zald (len := 2) rfl rfl b0 (by omega) ?_
  rw [r87, hn]
  refine jr_zret rfl rfl rfl (Nat.zero_le _) (Nat.zero_le _) ?_
  refine jr_if_eq rfl (fun _ => ?_) (fun z => absurd (by decide) z)
  refine jr_aload rfl rfl ?_
  refine jr_cv0 (mc' := 0) (ms' := 0) rfl jm_MD_isGood_n jm_MD_isGood_f rfl rfl rfl rfl rfl rfl rfl (Nat.zero_le _) (Nat.zero_le _) ?_
  show jx_W (jm_MD_isGood, _, _, _, _, _, _) _ 0 0 0 [some _] [] _
  refine jr_aload rfl rfl ?_
  refine jr_getI rfl rfl ?_
  refine jr_if_ne rfl (fun z => absurd f0 z) (fun _ => ?_)
  refine jr_ic rfl ?_
  refine jr_goto rfl ?_
  refine jr_zret rfl rfl rfl (Nat.zero_le _) (Nat.zero_le _) ?_
  refine jr_if_ne rfl (fun _ => ?_) (fun z => absurd z (by decide))
  refine jr_aload rfl rfl ?_
  refine jr_cv0 (mc' := 0) (ms' := 0) rfl jm_MD_goOn_n jm_MD_goOn_f rfl rfl rfl rfl rfl rfl rfl (Nat.zero_le _) (Nat.zero_le _) ?_
  refine eM_goOn (B := B) (sz := sz) (t := t + 1) t0.1 t0.2.1 t0.2.2.1 m0.2.1 (fun h1 g1 m1 => ?_)
  have x1 := jML_G x g1 m1
  have F1 := jMF_G F g1
  refine jr_lload rfl rfl ?_
  refine jr_lc rfl ?_
  refine jr_lcmp rfl ?_
  refine jr_if_ne rfl (fun _ => ?_) (fun z => absurd z (by decide +kernel))
  refine jr_lload rfl rfl ?_
  refine jr_lc rfl ?_
  refine jr_lcmp rfl ?_
  refine jr_if_ne rfl (fun _ => ?_) (fun z => absurd z (by decide +kernel))
  refine jr_lload rfl rfl ?_
  refine jr_lc rfl ?_
  refine jr_lcmp rfl ?_
  refine jr_if_ne rfl (fun _ => ?_) (fun z => absurd z (by decide +kernel))
  refine jr_lload rfl rfl ?_
  refine jr_lc rfl ?_
  refine jr_lcmp rfl ?_
  refine jr_if_ne rfl (fun _ => ?_) (fun z => absurd z (by decide +kernel))
  refine jr_lload rfl rfl ?_
  refine jr_lc rfl ?_
  refine jr_lcmp rfl ?_
  refine jr_if_ne rfl (fun _ => ?_) (fun z => absurd z (by decide +kernel))
  refine jr_lload rfl rfl ?_
  refine jr_lc rfl ?_
  refine jr_lcmp rfl ?_
  refine jr_if_ne rfl (fun _ => ?_) (fun z => absurd z (by decide +kernel))
  refine jr_lload rfl rfl ?_
  refine jr_lc rfl ?_
  refine jr_lcmp rfl ?_
  refine jr_if_ne rfl (fun z => absurd (by decide +kernel) z) (fun _ => ?_)
  exact g d _ _ _ _ _ x1 F1 k

set_option maxHeartbeats 800000 in
set_option maxRecDepth 100000 in
theorem eM_lnB_week {d : Nat} {h : jx_H} {Q : Option jx_V → jx_H → Prop} {h0 : jx_H} {B : Nat → Int32} {sz β t : Nat} {V : Nat → Nat → Nat} {W : Nat → Nat → List Nat} {D : Nat → Int32} {kd : Int32} {pl : Nat} (x : jML h B sz β t V W D) (F : jMF β h0 h) (hβ : β < 2) (hK : jT_K B sz t = 125) (hn : V 0 7 = 0) (hk : jFk sz kd pl) (g : ∀ (d n0 : Nat) (what : Int64) (h1 hm : jx_H) (Qm : Option jx_V → jx_H → Prop), jML hm B sz β (t + 1) V W D → jMF β h1 hm → (∀ h', jMF β h1 h' → jh_I h' 11 0 4 = kd → jPl h' pl → jq_RL d n0 Qm what 82 h') → jq_RL d n0 Qm what 59 hm) (k : ∀ h', jMF β h0 h' → jh_I h' 11 0 4 = kd → jPl h' pl → Q none h')  : jx_Ev jm_MD_readLine (d + 20) 0 0 false 1 [jv_r 11 0] h Q := by
  show jx_W (jm_MD_readLine, d + 20, 0, 0, false, 1, _) Q 0 0 0 [some (jv_r 11 0), none, none] [] _
  obtain ⟨⟨t0, m0, f0, b0, -, -, -, -⟩, ⟨⟨r66, -⟩, ⟨r67, -⟩, ⟨r68, -⟩, rr, ⟨r85, -⟩, r86, -, r87, -, -⟩, -⟩ := id x
  have r89 := (rr 5 (by decide)).1
  have hsz : jh_I h 11 0 3 = nI sz := t0.1
  have hs17 : sz ≤ 1700 := t0.2.1
  refine jr_aload rfl rfl ?_
  refine jr_getL rfl rfl ?_
  rw [show jh_L h 11 0 10 = (2003133803 : Int64) from (jT_what m0 (by decide) hK).trans jT_W25.symm]
  refine jr_lst1 rfl rfl ?_
  refine jr_aload rfl rfl ?_
  refine jr_getI rfl rfl ?_
  refine jr_ic rfl ?_
  rw [m0.2.2.1]
  refine jr_icmp_ne rfl (fun z => absurd (jT_mt3.mpr (show 100 ≤ jT_K B sz t by omega)) z) (fun _ => ?_)
  refine jr_aload rfl rfl ?_
  refine jr_cv0 (mc' := 0) (ms' := 0) rfl jm_MD_isFull_n jm_MD_isFull_f rfl rfl rfl rfl rfl rfl rfl (Nat.zero_le _) (Nat.zero_le _) ?_
  show jx_W (jm_MD_isFull, _, _, _, _, _, _) _ 0 0 0 [some _] [] _
  refine jr_aload rfl rfl ?_
  refine jr_lc rfl ?_
  refine jr_cv1 (mc' := 0) (ms' := 0) rfl jm_MD_isWord_n jm_MD_isWord_f rfl rfl rfl rfl rfl rfl rfl (Nat.zero_le _) (Nat.zero_le _) ?_
  refine eM_isWord (B := B) (sz := sz) (t := t) m0 (i := 0) (by decide) jT_W0 ?_
  refine jr_if_eq rfl (fun _ => ?_) (fun z => absurd (if_neg (by omega)) z)
  refine jr_aload rfl rfl ?_
  refine jr_lc rfl ?_
  refine jr_cv1 (mc' := 0) (ms' := 0) rfl jm_MD_isWord_n jm_MD_isWord_f rfl rfl rfl rfl rfl rfl rfl (Nat.zero_le _) (Nat.zero_le _) ?_
  refine eM_isWord (B := B) (sz := sz) (t := t) m0 (i := 9) (by decide) jT_W9 ?_
  refine jr_if_eq rfl (fun _ => ?_) (fun z => absurd (if_neg (by omega)) z)
  refine jr_aload rfl rfl ?_
  refine jr_lc rfl ?_
  refine jr_cv1 (mc' := 0) (ms' := 0) rfl jm_MD_isWord_n jm_MD_isWord_f rfl rfl rfl rfl rfl rfl rfl (Nat.zero_le _) (Nat.zero_le _) ?_
  refine eM_isWord (B := B) (sz := sz) (t := t) m0 (i := 12) (by decide) jT_W12 ?_
  refine jr_if_eq rfl (fun _ => ?_) (fun z => absurd (if_neg (by omega)) z)
  refine jr_aload rfl rfl ?_
  refine jr_lc rfl ?_
  refine jr_cv1 (mc' := 0) (ms' := 0) rfl jm_MD_isWord_n jm_MD_isWord_f rfl rfl rfl rfl rfl rfl rfl (Nat.zero_le _) (Nat.zero_le _) ?_
  refine eM_isWord (B := B) (sz := sz) (t := t) m0 (i := 18) (by decide) jT_W18 ?_
  refine jr_if_eq rfl (fun _ => ?_) (fun z => absurd (if_neg (by omega)) z)
  refine jr_aload rfl rfl ?_
  refine jr_lc rfl ?_
  refine jr_cv1 (mc' := 0) (ms' := 0) rfl jm_MD_isWord_n jm_MD_isWord_f rfl rfl rfl rfl rfl rfl rfl (Nat.zero_le _) (Nat.zero_le _) ?_
  refine eM_isWord (B := B) (sz := sz) (t := t) m0 (i := 21) (by decide) jT_W21 ?_
  refine jr_if_eq rfl (fun _ => ?_) (fun z => absurd (if_neg (by omega)) z)
  refine jr_aload rfl rfl ?_
  refine jr_lc rfl ?_
  refine jr_cv1 (mc' := 0) (ms' := 0) rfl jm_MD_isWord_n jm_MD_isWord_f rfl rfl rfl rfl rfl rfl rfl (Nat.zero_le _) (Nat.zero_le _) ?_
  refine eM_isWord (B := B) (sz := sz) (t := t) m0 (i := 25) (by decide) jT_W25 ?_
  refine jr_if_eq rfl (fun z => absurd z (by rw [if_pos hK]; decide)) (fun _ => ?_)
  refine jr_aload rfl rfl ?_
  refine jr_getR rfl rfl rfl rfl (Or.inl rfl) ?_
  refine jr_aload rfl rfl ?_
  refine jr_getI rfl rfl ?_
  refine jr_zald (len := 2) rfl rfl b0 (by omega) ?_
  rw [r87, hn]
  refine jr_zret rfl rfl rfl (Nat.zero_le _) (Nat.zero_le _) ?_
  refine jr_if_eq rfl (fun _ => ?_) (fun z => absurd (by decide) z)
  refine jr_aload rfl rfl ?_
  refine jr_cv0 (mc' := 0) (ms' := 0) rfl jm_MD_isGood_n jm_MD_isGood_f rfl rfl rfl rfl rfl rfl rfl (Nat.zero_le _) (Nat.zero_le _) ?_
  show jx_W (jm_MD_isGood, _, _, _, _, _, _) _ 0 0 0 [some _] [] _
  refine jr_aload rfl rfl ?_
  refine jr_getI rfl rfl ?_
  refine jr_if_ne rfl (fun z => absurd f0 z) (fun _ => ?_)
  refine jr_ic rfl ?_
  refine jr_goto rfl ?_
  refine jr_zret rfl rfl rfl (Nat.zero_le _) (Nat.zero_le _) ?_
  refine jr_if_ne rfl (fun _ => ?_) (fun z => absurd z (by decide))
  refine jr_aload rfl rfl ?_
  refine jr_cv0 (mc' := 0) (ms' := 0) rfl jm_MD_goOn_n jm_MD_goOn_f rfl rfl rfl rfl rfl rfl rfl (Nat.zero_le _) (Nat.zero_le _) ?_
  refine eM_goOn (B := B) (sz := sz) (t := t + 1) t0.1 t0.2.1 t0.2.2.1 m0.2.1 (fun h1 g1 m1 => ?_)
  have x1 := jML_G x g1 m1
  have F1 := jMF_G F g1
  refine jr_lload rfl rfl ?_
  refine jr_lc rfl ?_
  refine jr_lcmp rfl ?_
  refine jr_if_ne rfl (fun _ => ?_) (fun z => absurd z (by decide +kernel))
  refine jr_lload rfl rfl ?_
  refine jr_lc rfl ?_
  refine jr_lcmp rfl ?_
  refine jr_if_ne rfl (fun _ => ?_) (fun z => absurd z (by decide +kernel))
  refine jr_lload rfl rfl ?_
  refine jr_lc rfl ?_
  refine jr_lcmp rfl ?_
  refine jr_if_ne rfl (fun _ => ?_) (fun z => absurd z (by decide +kernel))
  refine jr_lload rfl rfl ?_
  refine jr_lc rfl ?_
  refine jr_lcmp rfl ?_
  refine jr_if_ne rfl (fun _ => ?_) (fun z => absurd z (by decide +kernel))
  refine jr_lload rfl rfl ?_
  refine jr_lc rfl ?_
  refine jr_lcmp rfl ?_
  refine jr_if_ne rfl (fun _ => ?_) (fun z => absurd z (by decide +kernel))
  refine jr_lload rfl rfl ?_
  refine jr_lc rfl ?_
  refine jr_lcmp rfl ?_
  refine jr_if_ne rfl (fun _ => ?_) (fun z => absurd z (by decide +kernel))
  refine jr_lload rfl rfl ?_
  refine jr_lc rfl ?_
  refine jr_lcmp rfl ?_
  refine jr_if_ne rfl (fun z => absurd (by decide +kernel) z) (fun _ => ?_)
  refine g d _ _ _ _ _ x1 F1 (fun h2 F2 e2 p2 => ?_)
  exact eM_tail_b (sz := sz) (by rw [e2]; exact hk.1) p2 (((F2.2.2.2.2.2 3 (by decide)).trans (F.2.2.2.2.2 3 (by decide)).symm).trans hsz) hs17 hk.2 (k h2 F2 e2 p2)

set_option maxHeartbeats 800000 in
set_option maxRecDepth 100000 in
theorem eM_lnF_law {d : Nat} {h : jx_H} {Q : Option jx_V → jx_H → Prop} {h0 : jx_H} {B : Nat → Int32} {sz β t : Nat} {V : Nat → Nat → Nat} {W : Nat → Nat → List Nat} {D : Nat → Int32} (x : jML h B sz β t V W D) (F : jMF β h0 h) (hβ : β < 2) (hK : jT_K B sz t = 120) (hn : V 12 5 = 1) (k : ∀ h', jMF β h0 h' → jh_I h' 11 0 4 = jX_kd (jT_K B sz t) → jPl h' (jT_p B sz t) → Q none h')  : jx_Ev jm_MD_readLine (d + 20) 0 0 false 1 [jv_r 11 0] h Q := by
  show jx_W (jm_MD_readLine, d + 20, 0, 0, false, 1, _) Q 0 0 0 [some (jv_r 11 0), none, none] [] _
  obtain ⟨⟨t0, m0, f0, b0, -, -, -, -⟩, ⟨⟨r66, -⟩, ⟨r67, -⟩, ⟨r68, -⟩, rr, ⟨r85, -⟩, r86, -, r87, -, -⟩, -⟩ := id x
  have r89 := (rr 5 (by decide)).1
  have hsz : jh_I h 11 0 3 = nI sz := t0.1
  have hs17 : sz ≤ 1700 := t0.2.1
  refine jr_aload rfl rfl ?_
  refine jr_getL rfl rfl ?_
  refine jr_lst1 rfl rfl ?_
  refine jr_aload rfl rfl ?_
  refine jr_getI rfl rfl ?_
  refine jr_ic rfl ?_
  rw [m0.2.2.1]
  refine jr_icmp_ne rfl (fun z => absurd (jT_mt3.mpr (show 100 ≤ jT_K B sz t by omega)) z) (fun _ => ?_)
  refine jr_aload rfl rfl ?_
  refine jr_cv0 (mc' := 0) (ms' := 0) rfl jm_MD_isFull_n jm_MD_isFull_f rfl rfl rfl rfl rfl rfl rfl (Nat.zero_le _) (Nat.zero_le _) ?_
  show jx_W (jm_MD_isFull, _, _, _, _, _, _) _ 0 0 0 [some _] [] _
  refine jr_aload rfl rfl ?_
  refine jr_lc rfl ?_
  refine jr_cv1 (mc' := 0) (ms' := 0) rfl jm_MD_isWord_n jm_MD_isWord_f rfl rfl rfl rfl rfl rfl rfl (Nat.zero_le _) (Nat.zero_le _) ?_
  refine eM_isWord (B := B) (sz := sz) (t := t) m0 (i := 0) (by decide) jT_W0 ?_
  refine jr_if_eq rfl (fun _ => ?_) (fun z => absurd (if_neg (by omega)) z)
  refine jr_aload rfl rfl ?_
  refine jr_lc rfl ?_
  refine jr_cv1 (mc' := 0) (ms' := 0) rfl jm_MD_isWord_n jm_MD_isWord_f rfl rfl rfl rfl rfl rfl rfl (Nat.zero_le _) (Nat.zero_le _) ?_
  refine eM_isWord (B := B) (sz := sz) (t := t) m0 (i := 9) (by decide) jT_W9 ?_
  refine jr_if_eq rfl (fun _ => ?_) (fun z => absurd (if_neg (by omega)) z)
  refine jr_aload rfl rfl ?_
  refine jr_lc rfl ?_
  refine jr_cv1 (mc' := 0) (ms' := 0) rfl jm_MD_isWord_n jm_MD_isWord_f rfl rfl rfl rfl rfl rfl rfl (Nat.zero_le _) (Nat.zero_le _) ?_
  refine eM_isWord (B := B) (sz := sz) (t := t) m0 (i := 12) (by decide) jT_W12 ?_
  refine jr_if_eq rfl (fun _ => ?_) (fun z => absurd (if_neg (by omega)) z)
  refine jr_aload rfl rfl ?_
  refine jr_lc rfl ?_
  refine jr_cv1 (mc' := 0) (ms' := 0) rfl jm_MD_isWord_n jm_MD_isWord_f rfl rfl rfl rfl rfl rfl rfl (Nat.zero_le _) (Nat.zero_le _) ?_
  refine eM_isWord (B := B) (sz := sz) (t := t) m0 (i := 18) (by decide) jT_W18 ?_
  refine jr_if_eq rfl (fun _ => ?_) (fun z => absurd (if_neg (by omega)) z)
  refine jr_aload rfl rfl ?_
  refine jr_lc rfl ?_
  refine jr_cv1 (mc' := 0) (ms' := 0) rfl jm_MD_isWord_n jm_MD_isWord_f rfl rfl rfl rfl rfl rfl rfl (Nat.zero_le _) (Nat.zero_le _) ?_
  refine eM_isWord (B := B) (sz := sz) (t := t) m0 (i := 21) (by decide) jT_W21 ?_
  refine jr_if_eq rfl (fun _ => ?_) (fun z => absurd (if_neg (by omega)) z)
  refine jr_aload rfl rfl ?_
  refine jr_lc rfl ?_
  refine jr_cv1 (mc' := 0) (ms' := 0) rfl jm_MD_isWord_n jm_MD_isWord_f rfl rfl rfl rfl rfl rfl rfl (Nat.zero_le _) (Nat.zero_le _) ?_
  refine eM_isWord (B := B) (sz := sz) (t := t) m0 (i := 25) (by decide) jT_W25 ?_
  refine jr_if_eq rfl (fun _ => ?_) (fun z => absurd (if_neg (by omega)) z)
  refine jr_aload rfl rfl ?_
  refine jr_lc rfl ?_
  refine jr_cv1 (mc' := 0) (ms' := 0) rfl jm_MD_isWord_n jm_MD_isWord_f rfl rfl rfl rfl rfl rfl rfl (Nat.zero_le _) (Nat.zero_le _) ?_
  refine eM_isWord (B := B) (sz := sz) (t := t) m0 (i := 20) (by decide) jT_W20 ?_
  refine jr_if_eq rfl (fun z => absurd z (by rw [if_pos hK]; decide)) (fun _ => ?_)
  refine jr_aload rfl rfl ?_
  refine jr_getR rfl rfl rfl rfl (Or.inl rfl) ?_
  refine jr_ic rfl ?_
  refine jr_aload rfl rfl ?_
  refine jr_getI rfl rfl ?_
  refine jr_imul rfl ?_
  refine jr_ic rfl ?_
  refine jr_iadd rfl ?_
  refine jr_zald (len := 12) rfl rfl (jn_add (jn_mul (show _ = nI 6 from rfl) b0) (show _ = nI 5 from rfl)) (by omega) ?_
  refine jr_if_eq rfl (fun z => absurd z (by rw [r89, hn]; decide)) (fun _ => ?_)
  refine jr_ic rfl ?_
  refine jr_goto rfl ?_
  refine jr_zret rfl rfl rfl (Nat.zero_le _) (Nat.zero_le _) ?_
  refine jr_if_eq rfl (fun z => absurd z (by decide)) (fun _ => ?_)
  refine jr_aload rfl rfl ?_
  refine jr_cv0 (mc' := 0) (ms' := 0) rfl jm_MD_misplaced_n jm_MD_misplaced_f rfl rfl rfl rfl rfl rfl rfl (Nat.zero_le _) (Nat.zero_le _) ?_
  refine eM_misplaced (B := B) (sz := sz) (t := t) f0 m0 (fun h1 g1 => ?_)
  refine jr_aload rfl rfl ?_
  refine jr_cv0 (mc' := 0) (ms' := 0) rfl jm_MD_isGood_n jm_MD_isGood_f rfl rfl rfl rfl rfl rfl rfl (Nat.zero_le _) (Nat.zero_le _) ?_
  show jx_W (jm_MD_isGood, _, _, _, _, _, _) _ 0 0 0 [some _] [] _
  refine jr_aload rfl rfl ?_
  refine jr_getI rfl rfl ?_
  refine jr_if_ne rfl (fun _ => ?_) (fun z => absurd z (by rw [g1.2.2.2.1]; exact jX_kd_n _))
  refine jr_ic rfl ?_
  refine jr_zret rfl rfl rfl (Nat.zero_le _) (Nat.zero_le _) ?_
  refine jr_if_ne rfl (fun z => absurd (by decide) z) (fun _ => ?_)
  refine jr_vret rfl rfl (Nat.zero_le _) (Nat.zero_le _) ?_
  exact k h1 (jMF_ft F g1) g1.2.2.2.1 g1.2.2.2.2

set_option maxHeartbeats 800000 in
set_option maxRecDepth 100000 in
theorem eM_lnG_law {d : Nat} {h : jx_H} {Q : Option jx_V → jx_H → Prop} {h0 : jx_H} {B : Nat → Int32} {sz β t : Nat} {V : Nat → Nat → Nat} {W : Nat → Nat → List Nat} {D : Nat → Int32} {t2 : Nat} {V2 : Nat → Nat → Nat} {W2 : Nat → Nat → List Nat} {D2 : Nat → Int32} (x : jML h B sz β t V W D) (F : jMF β h0 h) (hβ : β < 2) (hK : jT_K B sz t = 120) (hn : V 12 5 = 0) (g : ∀ (d : Nat) (h1 hm : jx_H) (Qm : Option jx_V → jx_H → Prop), jML hm B sz β (t + 1) V W D → jMF β h1 hm → (∀ h', jMF β h1 h' → jML h' B sz β t2 V2 W2 D2 → Qm none h') → jx_Ev jm_MD_readRule (d + 9) 0 0 false 1 [jv_r 11 0, jv_i (nI 5)] hm Qm) (k : ∀ h', jMF β h0 h' → jML h' B sz β t2 V2 W2 D2 → jq_RL d (jh_n h) Q 7102839 82 h')  : jx_Ev jm_MD_readLine (d + 20) 0 0 false 1 [jv_r 11 0] h Q := by
  show jx_W (jm_MD_readLine, d + 20, 0, 0, false, 1, _) Q 0 0 0 [some (jv_r 11 0), none, none] [] _
  obtain ⟨⟨t0, m0, f0, b0, -, -, -, -⟩, ⟨⟨r66, -⟩, ⟨r67, -⟩, ⟨r68, -⟩, rr, ⟨r85, -⟩, r86, -, r87, -, -⟩, -⟩ := id x
  have r89 := (rr 5 (by decide)).1
  have hsz : jh_I h 11 0 3 = nI sz := t0.1
  have hs17 : sz ≤ 1700 := t0.2.1
  refine jr_aload rfl rfl ?_
  refine jr_getL rfl rfl ?_
  rw [show jh_L h 11 0 10 = (7102839 : Int64) from (jT_what m0 (by decide) hK).trans jT_W20.symm]
  refine jr_lst1 rfl rfl ?_
  refine jr_aload rfl rfl ?_
  refine jr_getI rfl rfl ?_
  refine jr_ic rfl ?_
  rw [m0.2.2.1]
  refine jr_icmp_ne rfl (fun z => absurd (jT_mt3.mpr (show 100 ≤ jT_K B sz t by omega)) z) (fun _ => ?_)
  refine jr_aload rfl rfl ?_
  refine jr_cv0 (mc' := 0) (ms' := 0) rfl jm_MD_isFull_n jm_MD_isFull_f rfl rfl rfl rfl rfl rfl rfl (Nat.zero_le _) (Nat.zero_le _) ?_
  show jx_W (jm_MD_isFull, _, _, _, _, _, _) _ 0 0 0 [some _] [] _
  refine jr_aload rfl rfl ?_
  refine jr_lc rfl ?_
  refine jr_cv1 (mc' := 0) (ms' := 0) rfl jm_MD_isWord_n jm_MD_isWord_f rfl rfl rfl rfl rfl rfl rfl (Nat.zero_le _) (Nat.zero_le _) ?_
  refine eM_isWord (B := B) (sz := sz) (t := t) m0 (i := 0) (by decide) jT_W0 ?_
  refine jr_if_eq rfl (fun _ => ?_) (fun z => absurd (if_neg (by omega)) z)
  refine jr_aload rfl rfl ?_
  refine jr_lc rfl ?_
  refine jr_cv1 (mc' := 0) (ms' := 0) rfl jm_MD_isWord_n jm_MD_isWord_f rfl rfl rfl rfl rfl rfl rfl (Nat.zero_le _) (Nat.zero_le _) ?_
  refine eM_isWord (B := B) (sz := sz) (t := t) m0 (i := 9) (by decide) jT_W9 ?_
  refine jr_if_eq rfl (fun _ => ?_) (fun z => absurd (if_neg (by omega)) z)
  refine jr_aload rfl rfl ?_
  refine jr_lc rfl ?_
  refine jr_cv1 (mc' := 0) (ms' := 0) rfl jm_MD_isWord_n jm_MD_isWord_f rfl rfl rfl rfl rfl rfl rfl (Nat.zero_le _) (Nat.zero_le _) ?_
  refine eM_isWord (B := B) (sz := sz) (t := t) m0 (i := 12) (by decide) jT_W12 ?_
  refine jr_if_eq rfl (fun _ => ?_) (fun z => absurd (if_neg (by omega)) z)
  refine jr_aload rfl rfl ?_
  refine jr_lc rfl ?_
  refine jr_cv1 (mc' := 0) (ms' := 0) rfl jm_MD_isWord_n jm_MD_isWord_f rfl rfl rfl rfl rfl rfl rfl (Nat.zero_le _) (Nat.zero_le _) ?_
  refine eM_isWord (B := B) (sz := sz) (t := t) m0 (i := 18) (by decide) jT_W18 ?_
  refine jr_if_eq rfl (fun _ => ?_) (fun z => absurd (if_neg (by omega)) z)
  refine jr_aload rfl rfl ?_
  refine jr_lc rfl ?_
  refine jr_cv1 (mc' := 0) (ms' := 0) rfl jm_MD_isWord_n jm_MD_isWord_f rfl rfl rfl rfl rfl rfl rfl (Nat.zero_le _) (Nat.zero_le _) ?_
  refine eM_isWord (B := B) (sz := sz) (t := t) m0 (i := 21) (by decide) jT_W21 ?_
  refine jr_if_eq rfl (fun _ => ?_) (fun z => absurd (if_neg (by omega)) z)
  refine jr_aload rfl rfl ?_
  refine jr_lc rfl ?_
  refine jr_cv1 (mc' := 0) (ms' := 0) rfl jm_MD_isWord_n jm_MD_isWord_f rfl rfl rfl rfl rfl rfl rfl (Nat.zero_le _) (Nat.zero_le _) ?_
  refine eM_isWord (B := B) (sz := sz) (t := t) m0 (i := 25) (by decide) jT_W25 ?_
  refine jr_if_eq rfl (fun _ => ?_) (fun z => absurd (if_neg (by omega)) z)
  refine jr_aload rfl rfl ?_
  refine jr_lc rfl ?_
  refine jr_cv1 (mc' := 0) (ms' := 0) rfl jm_MD_isWord_n jm_MD_isWord_f rfl rfl rfl rfl rfl rfl rfl (Nat.zero_le _) (Nat.zero_le _) ?_
  refine eM_isWord (B := B) (sz := sz) (t := t) m0 (i := 20) (by decide) jT_W20 ?_
  refine jr_if_eq rfl (fun z => absurd z (by rw [if_pos hK]; decide)) (fun _ => ?_)
  refine jr_aload rfl rfl ?_
  refine jr_getR rfl rfl rfl rfl (Or.inl rfl) ?_
  refine jr_ic rfl ?_
  refine jr_aload rfl rfl ?_
  refine jr_getI rfl rfl ?_
  refine jr_imul rfl ?_
  refine jr_ic rfl ?_
  refine jr_iadd rfl ?_
  refine jr_zald (len := 12) rfl rfl (jn_add (jn_mul (show _ = nI 6 from rfl) b0) (show _ = nI 5 from rfl)) (by omega) ?_
  refine jr_if_eq rfl (fun _ => ?_) (fun z => absurd (r89.trans (congrArg nI hn)) z)
  refine jr_ic rfl ?_
  refine jr_zret rfl rfl rfl (Nat.zero_le _) (Nat.zero_le _) ?_
  refine jr_if_eq rfl (fun _ => ?_) (fun z => absurd (by decide) z)
  refine jr_aload rfl rfl ?_
  refine jr_cv0 (mc' := 0) (ms' := 0) rfl jm_MD_isGood_n jm_MD_isGood_f rfl rfl rfl rfl rfl rfl rfl (Nat.zero_le _) (Nat.zero_le _) ?_
  show jx_W (jm_MD_isGood, _, _, _, _, _, _) _ 0 0 0 [some _] [] _
  refine jr_aload rfl rfl ?_
  refine jr_getI rfl rfl ?_
  refine jr_if_ne rfl (fun z => absurd f0 z) (fun _ => ?_)
  refine jr_ic rfl ?_
  refine jr_goto rfl ?_
  refine jr_zret rfl rfl rfl (Nat.zero_le _) (Nat.zero_le _) ?_
  refine jr_if_ne rfl (fun _ => ?_) (fun z => absurd z (by decide))
  refine jr_aload rfl rfl ?_
  refine jr_cv0 (mc' := 0) (ms' := 0) rfl jm_MD_goOn_n jm_MD_goOn_f rfl rfl rfl rfl rfl rfl rfl (Nat.zero_le _) (Nat.zero_le _) ?_
  refine eM_goOn (B := B) (sz := sz) (t := t + 1) t0.1 t0.2.1 t0.2.2.1 m0.2.1 (fun h1 g1 m1 => ?_)
  have x1 := jML_G x g1 m1
  have F1 := jMF_G F g1
  refine jr_lload rfl rfl ?_
  refine jr_lc rfl ?_
  refine jr_lcmp rfl ?_
  refine jr_if_ne rfl (fun _ => ?_) (fun z => absurd z (by decide +kernel))
  refine jr_lload rfl rfl ?_
  refine jr_lc rfl ?_
  refine jr_lcmp rfl ?_
  refine jr_if_ne rfl (fun _ => ?_) (fun z => absurd z (by decide +kernel))
  refine jr_lload rfl rfl ?_
  refine jr_lc rfl ?_
  refine jr_lcmp rfl ?_
  refine jr_if_ne rfl (fun _ => ?_) (fun z => absurd z (by decide +kernel))
  refine jr_lload rfl rfl ?_
  refine jr_lc rfl ?_
  refine jr_lcmp rfl ?_
  refine jr_if_ne rfl (fun _ => ?_) (fun z => absurd z (by decide +kernel))
  refine jr_lload rfl rfl ?_
  refine jr_lc rfl ?_
  refine jr_lcmp rfl ?_
  refine jr_if_ne rfl (fun _ => ?_) (fun z => absurd z (by decide +kernel))
  refine jr_lload rfl rfl ?_
  refine jr_lc rfl ?_
  refine jr_lcmp rfl ?_
  refine jr_if_ne rfl (fun z => absurd (by decide +kernel) z) (fun _ => ?_)
  refine jr_aload rfl rfl ?_
  refine jr_ic rfl ?_
  refine jr_cv1 (mc' := 0) (ms' := 0) rfl jm_MD_readRule_n jm_MD_readRule_f rfl rfl rfl rfl rfl rfl rfl (Nat.zero_le _) (Nat.zero_le _) ?_
  refine g (d + 10) _ _ _ x1 F1 (fun h2 F2 x2 => ?_)
  refine jr_lload rfl rfl ?_
  refine jr_lc rfl ?_
  refine jr_lcmp rfl ?_
  refine jr_if_ne rfl (fun _ => ?_) (fun z => absurd z (by decide +kernel))
  exact k h2 F2 x2

set_option maxHeartbeats 800000 in
set_option maxRecDepth 100000 in
theorem eM_lnB_law {d : Nat} {h : jx_H} {Q : Option jx_V → jx_H → Prop} {h0 : jx_H} {B : Nat → Int32} {sz β t : Nat} {V : Nat → Nat → Nat} {W : Nat → Nat → List Nat} {D : Nat → Int32} {kd : Int32} {pl : Nat} (x : jML h B sz β t V W D) (F : jMF β h0 h) (hβ : β < 2) (hK : jT_K B sz t = 120) (hn : V 12 5 = 0) (hk : jFk sz kd pl) (g : ∀ (d : Nat) (h1 hm : jx_H) (Qm : Option jx_V → jx_H → Prop), jML hm B sz β (t + 1) V W D → jMF β h1 hm → (∀ h', jMF β h1 h' → jh_I h' 11 0 4 = kd → jPl h' pl → Qm none h') → jx_Ev jm_MD_readRule (d + 9) 0 0 false 1 [jv_r 11 0, jv_i (nI 5)] hm Qm) (k : ∀ h', jMF β h0 h' → jh_I h' 11 0 4 = kd → jPl h' pl → Q none h')  : jx_Ev jm_MD_readLine (d + 20) 0 0 false 1 [jv_r 11 0] h Q := by
  show jx_W (jm_MD_readLine, d + 20, 0, 0, false, 1, _) Q 0 0 0 [some (jv_r 11 0), none, none] [] _
  obtain ⟨⟨t0, m0, f0, b0, -, -, -, -⟩, ⟨⟨r66, -⟩, ⟨r67, -⟩, ⟨r68, -⟩, rr, ⟨r85, -⟩, r86, -, r87, -, -⟩, -⟩ := id x
  have r89 := (rr 5 (by decide)).1
  have hsz : jh_I h 11 0 3 = nI sz := t0.1
  have hs17 : sz ≤ 1700 := t0.2.1
  refine jr_aload rfl rfl ?_
  refine jr_getL rfl rfl ?_
  rw [show jh_L h 11 0 10 = (7102839 : Int64) from (jT_what m0 (by decide) hK).trans jT_W20.symm]
  refine jr_lst1 rfl rfl ?_
  refine jr_aload rfl rfl ?_
  refine jr_getI rfl rfl ?_
  refine jr_ic rfl ?_
  rw [m0.2.2.1]
  refine jr_icmp_ne rfl (fun z => absurd (jT_mt3.mpr (show 100 ≤ jT_K B sz t by omega)) z) (fun _ => ?_)
  refine jr_aload rfl rfl ?_
  refine jr_cv0 (mc' := 0) (ms' := 0) rfl jm_MD_isFull_n jm_MD_isFull_f rfl rfl rfl rfl rfl rfl rfl (Nat.zero_le _) (Nat.zero_le _) ?_
  show jx_W (jm_MD_isFull, _, _, _, _, _, _) _ 0 0 0 [some _] [] _
  refine jr_aload rfl rfl ?_
  refine jr_lc rfl ?_
  refine jr_cv1 (mc' := 0) (ms' := 0) rfl jm_MD_isWord_n jm_MD_isWord_f rfl rfl rfl rfl rfl rfl rfl (Nat.zero_le _) (Nat.zero_le _) ?_
  refine eM_isWord (B := B) (sz := sz) (t := t) m0 (i := 0) (by decide) jT_W0 ?_
  refine jr_if_eq rfl (fun _ => ?_) (fun z => absurd (if_neg (by omega)) z)
  refine jr_aload rfl rfl ?_
  refine jr_lc rfl ?_
  refine jr_cv1 (mc' := 0) (ms' := 0) rfl jm_MD_isWord_n jm_MD_isWord_f rfl rfl rfl rfl rfl rfl rfl (Nat.zero_le _) (Nat.zero_le _) ?_
  refine eM_isWord (B := B) (sz := sz) (t := t) m0 (i := 9) (by decide) jT_W9 ?_
  refine jr_if_eq rfl (fun _ => ?_) (fun z => absurd (if_neg (by omega)) z)
  refine jr_aload rfl rfl ?_
  refine jr_lc rfl ?_
  refine jr_cv1 (mc' := 0) (ms' := 0) rfl jm_MD_isWord_n jm_MD_isWord_f rfl rfl rfl rfl rfl rfl rfl (Nat.zero_le _) (Nat.zero_le _) ?_
  refine eM_isWord (B := B) (sz := sz) (t := t) m0 (i := 12) (by decide) jT_W12 ?_
  refine jr_if_eq rfl (fun _ => ?_) (fun z => absurd (if_neg (by omega)) z)
  refine jr_aload rfl rfl ?_
  refine jr_lc rfl ?_
  refine jr_cv1 (mc' := 0) (ms' := 0) rfl jm_MD_isWord_n jm_MD_isWord_f rfl rfl rfl rfl rfl rfl rfl (Nat.zero_le _) (Nat.zero_le _) ?_
  refine eM_isWord (B := B) (sz := sz) (t := t) m0 (i := 18) (by decide) jT_W18 ?_
  refine jr_if_eq rfl (fun _ => ?_) (fun z => absurd (if_neg (by omega)) z)
  refine jr_aload rfl rfl ?_
  refine jr_lc rfl ?_
  refine jr_cv1 (mc' := 0) (ms' := 0) rfl jm_MD_isWord_n jm_MD_isWord_f rfl rfl rfl rfl rfl rfl rfl (Nat.zero_le _) (Nat.zero_le _) ?_
  refine eM_isWord (B := B) (sz := sz) (t := t) m0 (i := 21) (by decide) jT_W21 ?_
  refine jr_if_eq rfl (fun _ => ?_) (fun z => absurd (if_neg (by omega)) z)
  refine jr_aload rfl rfl ?_
  refine jr_lc rfl ?_
  refine jr_cv1 (mc' := 0) (ms' := 0) rfl jm_MD_isWord_n jm_MD_isWord_f rfl rfl rfl rfl rfl rfl rfl (Nat.zero_le _) (Nat.zero_le _) ?_
  refine eM_isWord (B := B) (sz := sz) (t := t) m0 (i := 25) (by decide) jT_W25 ?_
  refine jr_if_eq rfl (fun _ => ?_) (fun z => absurd (if_neg (by omega)) z)
  refine jr_aload rfl rfl ?_
  refine jr_lc rfl ?_
  refine jr_cv1 (mc' := 0) (ms' := 0) rfl jm_MD_isWord_n jm_MD_isWord_f rfl rfl rfl rfl rfl rfl rfl (Nat.zero_le _) (Nat.zero_le _) ?_
  refine eM_isWord (B := B) (sz := sz) (t := t) m0 (i := 20) (by decide) jT_W20 ?_
  refine jr_if_eq rfl (fun z => absurd z (by rw [if_pos hK]; decide)) (fun _ => ?_)
  refine jr_aload rfl rfl ?_
  refine jr_getR rfl rfl rfl rfl (Or.inl rfl) ?_
  refine jr_ic rfl ?_
  refine jr_aload rfl rfl ?_
  refine jr_getI rfl rfl ?_
  refine jr_imul rfl ?_
  refine jr_ic rfl ?_
  refine jr_iadd rfl ?_
  refine jr_zald (len := 12) rfl rfl (jn_add (jn_mul (show _ = nI 6 from rfl) b0) (show _ = nI 5 from rfl)) (by omega) ?_
  refine jr_if_eq rfl (fun _ => ?_) (fun z => absurd (r89.trans (congrArg nI hn)) z)
  refine jr_ic rfl ?_
  refine jr_zret rfl rfl rfl (Nat.zero_le _) (Nat.zero_le _) ?_
  refine jr_if_eq rfl (fun _ => ?_) (fun z => absurd (by decide) z)
  refine jr_aload rfl rfl ?_
  refine jr_cv0 (mc' := 0) (ms' := 0) rfl jm_MD_isGood_n jm_MD_isGood_f rfl rfl rfl rfl rfl rfl rfl (Nat.zero_le _) (Nat.zero_le _) ?_
  show jx_W (jm_MD_isGood, _, _, _, _, _, _) _ 0 0 0 [some _] [] _
  refine jr_aload rfl rfl ?_
  refine jr_getI rfl rfl ?_
  refine jr_if_ne rfl (fun z => absurd f0 z) (fun _ => ?_)
  refine jr_ic rfl ?_
  refine jr_goto rfl ?_
  refine jr_zret rfl rfl rfl (Nat.zero_le _) (Nat.zero_le _) ?_
  refine jr_if_ne rfl (fun _ => ?_) (fun z => absurd z (by decide))
  refine jr_aload rfl rfl ?_
  refine jr_cv0 (mc' := 0) (ms' := 0) rfl jm_MD_goOn_n jm_MD_goOn_f rfl rfl rfl rfl rfl rfl rfl (Nat.zero_le _) (Nat.zero_le _) ?_
  refine eM_goOn (B := B) (sz := sz) (t := t + 1) t0.1 t0.2.1 t0.2.2.1 m0.2.1 (fun h1 g1 m1 => ?_)
  have x1 := jML_G x g1 m1
  have F1 := jMF_G F g1
  refine jr_lload rfl rfl ?_
  refine jr_lc rfl ?_
  refine jr_lcmp rfl ?_
  refine jr_if_ne rfl (fun _ => ?_) (fun z => absurd z (by decide +kernel))
  refine jr_lload rfl rfl ?_
  refine jr_lc rfl ?_
  refine jr_lcmp rfl ?_
  refine jr_if_ne rfl (fun _ => ?_) (fun z => absurd z (by decide +kernel))
  refine jr_lload rfl rfl ?_
  refine jr_lc rfl ?_
  refine jr_lcmp rfl ?_
  refine jr_if_ne rfl (fun _ => ?_) (fun z => absurd z (by decide +kernel))
  refine jr_lload rfl rfl ?_
  refine jr_lc rfl ?_
  refine jr_lcmp rfl ?_
  refine jr_if_ne rfl (fun _ => ?_) (fun z => absurd z (by decide +kernel))
  refine jr_lload rfl rfl ?_
  refine jr_lc rfl ?_
  refine jr_lcmp rfl ?_
  refine jr_if_ne rfl (fun _ => ?_) (fun z => absurd z (by decide +kernel))
  refine jr_lload rfl rfl ?_
  refine jr_lc rfl ?_
  refine jr_lcmp rfl ?_
  refine jr_if_ne rfl (fun z => absurd (by decide +kernel) z) (fun _ => ?_)
  refine jr_aload rfl rfl ?_
  refine jr_ic rfl ?_
  refine jr_cv1 (mc' := 0) (ms' := 0) rfl jm_MD_readRule_n jm_MD_readRule_f rfl rfl rfl rfl rfl rfl rfl (Nat.zero_le _) (Nat.zero_le _) ?_
  refine g (d + 10) _ _ _ x1 F1 (fun h2 F2 e2 p2 => ?_)
  refine jr_lload rfl rfl ?_
  refine jr_lc rfl ?_
  refine jr_lcmp rfl ?_
  refine jr_if_ne rfl (fun _ => ?_) (fun z => absurd z (by decide +kernel))
  exact eM_tail_b (sz := sz) (by rw [e2]; exact hk.1) p2 (((F2.2.2.2.2.2 3 (by decide)).trans (F.2.2.2.2.2 3 (by decide)).symm).trans hsz) hs17 hk.2 (k h2 F2 e2 p2)

theorem jRG_y {B : Nat → Int32} {sz β t t2 : Nat} {V V2 : Nat → Nat → Nat} {W W2 : Nat → Nat → List Nat} {D D2 : Nat → Int32} (g : jRG B sz β t V W D t2 V2 W2 D2) (hK : jT_K B sz t2 = 59) : jLG jm_MD_readLine 20 B sz β t V W D (t2 + 1) V2 W2 D2 := by
  obtain ⟨what, g⟩ := g
  exact fun d h0 h Q x F k => g d h0 h Q x F (fun h1 F1 x1 => eM_tail_y x1 F1 hK k)
theorem jRG_n {B : Nat → Int32} {sz β t t2 : Nat} {V V2 : Nat → Nat → Nat} {W W2 : Nat → Nat → List Nat} {D D2 : Nat → Int32} (g : jRG B sz β t V W D t2 V2 W2 D2) (hK : ¬ jT_K B sz t2 = 59) : jLB jm_MD_readLine 20 B sz β t V W D (jX_kd (jT_K B sz t2)) (jT_p B sz t2) := by
  obtain ⟨what, g⟩ := g
  exact fun d h0 h Q x F k => g d h0 h Q x F (fun h1 F1 x1 => eM_tail_n x1 F1 hK k)
