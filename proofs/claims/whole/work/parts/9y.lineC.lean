/-- what a line of the class comes to, ahead of its ; -/
def jEL (h0 : jx_H) (B : Nat → Int32) (sz T β ρ t : Nat) (V : Nat → Nat → Nat) (W : Nat → Nat → List Nat) (D : Nat → Int32) (r : Option jx_V) (h' : jx_H) : Prop :=
  (r = some (jv_i 1) ∧ ∃ t' V' W' D', jsm V' = jsm V + 1 ∧ jLS h0 h' B sz T ρ t' V' W' D' ∧ jRG B sz β t V W D t' V' W' D') ∨
  (r = some (jv_i 0) ∧ ∃ kd pl, jCF ρ h0 h' ∧ jh_I h' 6 0 8 = kd ∧ jh_I h' 6 0 9 = nI pl ∧ jFk sz kd pl ∧ jLB jm_MD_readLine 20 B sz β t V W D kd pl) ∨
  (r = some (jv_i 1) ∧ ∃ t', jTS h' B sz T t' ∧ jT_rk (jT_K B sz t') = 4 ∧ jCF ρ h0 h' ∧ jLB jm_MD_readLine 20 B sz β t V W D 2 (jT_p B sz t'))
theorem jLS_once {h0 h h2 : jx_H} {B : Nat → Int32} {sz T ρ t : Nat} {V : Nat → Nat → Nat} {W : Nat → Nat → List Nat} {D : Nat → Int32} {y : Int32} (x : jLS h0 h B sz T ρ t V W D) (g : jT_G (ju_I h 6 0 (upd (jh_I h 6 0) 5 y)) h2) (c : jT_cur h2 B sz (t + 1)) (hn : t + 1 ≤ T) : jLS h0 (jgh h2 V) B sz T ρ (t + 1) V W D := by
  have g6 : jh_I h2 6 0 = upd (jh_I h 6 0) 5 y := (g.1 6 0 (by decide)).trans (jg_II _ _ _ _)
  have f : jCf h (jgh h2 V) := ⟨fun a b z1 z2 => (if_neg (fun q => z2 q.1)).trans ((g.1 a b z1).trans (if_neg (fun q => z2 q.1))), fun a b z1 => g.2.1 a b z1, g.2.2.1, fun f hf => g.2.2.2 f hf, fun f hf => by
    unfold jgh
    rw [jg_II]
    by_cases e : f = 5
    · subst e
      rw [jg_us]
      exact x.2.1.2.2.2.2.2.2.2.2.2.2.2.1.symm
    · rw [jg_un e, g6, jg_un e]⟩
  exact jLS_f x f (show jTS (jgh h2 V) B sz T (t + 1) from (jTS_take (h' := h2) (show jTS (ju_I h 6 0 (upd (jh_I h 6 0) 5 y)) B sz T t from x.1) g c hn))
theorem jLS_bit {h h2 : jx_H} {y : Int32} (g : jT_G (ju_I h 6 0 (upd (jh_I h 6 0) 5 y)) h2) : jh_I h2 6 0 5 = y := by rw [g.1 6 0 (by decide), jg_II, jg_us]
theorem jb_a1 : ∀ n, n < 16 → (nI n &&& (1 : Int32) = 0 ↔ n % 2 = 0) := by decide +kernel
theorem jb_a2 : ∀ n, n < 16 → (nI n &&& (2 : Int32) = 0 ↔ n / 2 % 2 = 0) := by decide +kernel
theorem jb_a4 : ∀ n, n < 16 → (nI n &&& (4 : Int32) = 0 ↔ n / 4 % 2 = 0) := by decide +kernel
theorem jb_a8 : ∀ n, n < 16 → (nI n &&& (8 : Int32) = 0 ↔ n / 8 % 2 = 0) := by decide +kernel
theorem jb_o1 : ∀ n, n < 16 → n % 2 = 0 → nI n ||| (1 : Int32) = nI (n + 1) := by decide +kernel
theorem jb_o2 : ∀ n, n < 16 → n / 2 % 2 = 0 → nI n ||| (2 : Int32) = nI (n + 2) := by decide +kernel
theorem jb_o4 : ∀ n, n < 16 → n / 4 % 2 = 0 → nI n ||| (4 : Int32) = nI (n + 4) := by decide +kernel
theorem jb_o8 : ∀ n, n < 16 → n / 8 % 2 = 0 → nI n ||| (8 : Int32) = nI (n + 8) := by decide +kernel
set_option maxHeartbeats 800000 in
set_option maxRecDepth 100000 in
theorem ev_lnF_month {d : Nat} {h : jx_H} {Q : Option jx_V → jx_H → Prop} {h0 : jx_H} {B : Nat → Int32} {sz T β ρ t : Nat} {V : Nat → Nat → Nat} {W : Nat → Nat → List Nat} {D : Nat → Int32} (x : jLS h0 h B sz T ρ t V W D) (hβ : β < 2) (hK : jT_K B sz t = 100) (hn : V 0 0 = 6) (k : ∀ r h', jEL h0 B sz T β ρ t V W D r h' → Q r h')  : jx_Ev jm_Rdr_readLine (d + 86) 0 0 false 0 [jv_r 6 0] h Q := by
  show jx_W (jm_Rdr_readLine, d + 86, 0, 0, false, 0, _) Q 0 0 0 [some (jv_r 6 0)] [] _
  obtain ⟨xz, xD, xF, ⟨v1, v2, v3, -, -, -, -, v8, -, -, v11, v12, -, -, -, -, v17, -, -, -, -⟩, x5, x6⟩ := id x
  have w5 : V 12 5 ≤ 1 := (v17 5 (by decide)).1
  have hkl : jT_K B sz t < 256 := jT_k_lt
  have hk : jh_I h 9 0 8 = nI (jT_K B sz t) := xz.2.1.2.1
  have hρ : jh_M h 6 0 4 = ρ + 1 := xD.2.2.2.2.2.2.2.2.2.2.2.2.2.2
  have xi : jh_I h 6 0 5 = nI (jbt V) := xD.2.2.2.2.2.2.2.2.2.2.2.1
  have c0 : jh_I h 7 ρ 0 = nI (V 0 0) := xD.1.1
  have c3 : jh_I h 7 ρ 3 = nI (V 0 1) := xD.2.1.1
  have c5 : jh_I h 7 ρ 5 = nI (V 0 2) := xD.2.2.1.1
  refine jr_aload rfl rfl ?_
  refine jr_getR rfl rfl rfl rfl (Or.inl rfl) ?_
  refine jr_getI rfl rfl ?_
  rw [show jh_I h 9 0 8 = (100 : Int32) from hk.trans (congrArg nI hK)]
  refine jr_lsw rfl ?_
  refine ⟨fun _ => ?_, fun z => absurd (by decide) z⟩
  refine jr_aload rfl rfl ?_
  refine jr_aload rfl rfl ?_
  refine jr_getM rfl rfl rfl rfl hρ ?_
  refine jr_getI rfl rfl ?_
  refine jr_ic rfl ?_
  refine jr_icmp_ge rfl (fun _ => ?_) (fun z => absurd (by rw [c0, hn]; decide) z)
  refine jr_ic rfl ?_
  refine jr_cv1 (mc' := 0) (ms' := 0) rfl jm_Rdr_beginLine_n jm_Rdr_beginLine_f rfl rfl rfl rfl rfl rfl rfl (Nat.zero_le _) (Nat.zero_le _) ?_
  show jx_W (jm_Rdr_beginLine, _, _, _, _, _, _) _ 0 0 0 [some _, some _] [] _
  refine jr_iload rfl rfl ?_
  refine jr_if_ne rfl (fun z => absurd (by decide) z) (fun _ => ?_)
  refine jr_aload rfl rfl ?_
  refine jr_ic rfl ?_
  refine jr_cv1 (mc' := 0) (ms' := 0) rfl jm_Rdr_refuse_n jm_Rdr_refuse_f rfl rfl rfl rfl rfl rfl rfl (Nat.zero_le _) (Nat.zero_le _) ?_
  refine ev_refuse (B := B) (sz := sz) (t := t) xz.2.1 (fun h1 g1 => ?_)
  refine jr_zret rfl rfl rfl (Nat.zero_le _) (Nat.zero_le _) ?_
  refine jr_if_eq rfl (fun _ => ?_) (fun z => absurd (by decide) z)
  refine jr_ic rfl ?_
  refine jr_zret rfl rfl rfl (Nat.zero_le _) (Nat.zero_le _) ?_
  exact k _ _ (Or.inr (Or.inl ⟨rfl, _, _, jCF_f xF (jCf_ft g1), g1.2.2.2.1, g1.2.2.2.2, ⟨by first | exact jX_kd_n _ | decide, jT_p_le⟩, fun d h0 hm Qm x F kq => eM_lnF_month x F hβ hK hn kq⟩))

set_option maxHeartbeats 800000 in
set_option maxRecDepth 100000 in
theorem ev_lnG_month {d : Nat} {h : jx_H} {Q : Option jx_V → jx_H → Prop} {h0 : jx_H} {B : Nat → Int32} {sz T β ρ t : Nat} {V : Nat → Nat → Nat} {W : Nat → Nat → List Nat} {D : Nat → Int32} (x : jLS h0 h B sz T ρ t V W D) (hβ : β < 2) (hK : jT_K B sz t = 100) (hn : V 0 0 < 6) (k : ∀ r h', jEL h0 B sz T β ρ t V W D r h' → Q r h')  : jx_Ev jm_Rdr_readLine (d + 86) 0 0 false 0 [jv_r 6 0] h Q := by
  show jx_W (jm_Rdr_readLine, d + 86, 0, 0, false, 0, _) Q 0 0 0 [some (jv_r 6 0)] [] _
  obtain ⟨xz, xD, xF, ⟨v1, v2, v3, -, -, -, -, v8, -, -, v11, v12, -, -, -, -, v17, -, -, -, -⟩, x5, x6⟩ := id x
  have w5 : V 12 5 ≤ 1 := (v17 5 (by decide)).1
  have hkl : jT_K B sz t < 256 := jT_k_lt
  have hk : jh_I h 9 0 8 = nI (jT_K B sz t) := xz.2.1.2.1
  have hρ : jh_M h 6 0 4 = ρ + 1 := xD.2.2.2.2.2.2.2.2.2.2.2.2.2.2
  have xi : jh_I h 6 0 5 = nI (jbt V) := xD.2.2.2.2.2.2.2.2.2.2.2.1
  have c0 : jh_I h 7 ρ 0 = nI (V 0 0) := xD.1.1
  have c3 : jh_I h 7 ρ 3 = nI (V 0 1) := xD.2.1.1
  have c5 : jh_I h 7 ρ 5 = nI (V 0 2) := xD.2.2.1.1
  have hn1 := jT_next xz.1 xz.2.2 (show jT_K B sz t ≠ 0 by omega)
  refine jr_aload rfl rfl ?_
  refine jr_getR rfl rfl rfl rfl (Or.inl rfl) ?_
  refine jr_getI rfl rfl ?_
  rw [show jh_I h 9 0 8 = (100 : Int32) from hk.trans (congrArg nI hK)]
  refine jr_lsw rfl ?_
  refine ⟨fun _ => ?_, fun z => absurd (by decide) z⟩
  refine jr_aload rfl rfl ?_
  refine jr_aload rfl rfl ?_
  refine jr_getM rfl rfl rfl rfl hρ ?_
  refine jr_getI rfl rfl ?_
  refine jr_ic rfl ?_
  refine jr_icmp_ge rfl (fun z => absurd z (by rw [c0]; exact nI_ge (a := V 0 0) (b := 6) hn (by decide))) (fun _ => ?_)
  refine jr_ic rfl ?_
  refine jr_goto rfl ?_
  refine jr_cv1 (mc' := 0) (ms' := 0) rfl jm_Rdr_beginLine_n jm_Rdr_beginLine_f rfl rfl rfl rfl rfl rfl rfl (Nat.zero_le _) (Nat.zero_le _) ?_
  show jx_W (jm_Rdr_beginLine, _, _, _, _, _, _) _ 0 0 0 [some _, some _] [] _
  refine jr_iload rfl rfl ?_
  refine jr_if_ne rfl (fun _ => ?_) (fun z => absurd z (by decide))
  refine jr_aload rfl rfl ?_
  refine jr_getR rfl rfl rfl rfl (Or.inl rfl) ?_
  refine jr_cv0 (mc' := 0) (ms' := 0) rfl jm_Tape_take_n jm_Tape_take_f rfl rfl rfl rfl rfl rfl rfl (Nat.zero_le _) (Nat.zero_le _) ?_
  refine ev_take (B := B) (sz := sz) (T := T) (t := t + 1) xz.1 xz.2.1.1 hn1 (fun h1 g1 c1 => ?_)
  have x1 : jLS h0 h1 B sz T ρ (t + 1) V W D := jLS_f x (jCf_G g1) (jTS_take xz g1 c1 hn1)
  refine jr_ic rfl ?_
  refine jr_zret rfl rfl rfl (Nat.zero_le _) (Nat.zero_le _) ?_
  refine jr_if_eq rfl (fun z => absurd z (by decide)) (fun _ => ?_)
  refine jr_aload rfl rfl ?_
  refine jr_cv0 (mc' := 0) (ms' := 0) rfl jm_Rdr_readMonth_n jm_Rdr_readMonth_f rfl rfl rfl rfl rfl rfl rfl (Nat.zero_le _) (Nat.zero_le _) ?_
  refine ev_month (β := β) x1 hβ hn (fun r h2 o => ?_)
  rcases o with ⟨rfl, t2, V2, W2, D2, hs, y, gg⟩ | ⟨rfl, kd, pl, f, y1, y2, y3, gg⟩
  · refine jr_if_eq rfl (fun z => absurd z (by decide)) (fun _ => ?_)
    refine jr_ic rfl ?_
    refine jr_goto rfl ?_
    refine jr_zret rfl rfl rfl (Nat.zero_le _) (Nat.zero_le _) ?_
    exact k _ _ (Or.inl ⟨rfl, t2, V2, W2, D2, hs, y, 470020945000, fun d h0 hm Qm x F kq => eM_lnG_month x F hβ hK hn gg kq⟩)
  · refine jr_if_eq rfl (fun _ => ?_) (fun z => absurd (by decide) z)
    refine jr_ic rfl ?_
    refine jr_zret rfl rfl rfl (Nat.zero_le _) (Nat.zero_le _) ?_
    exact k _ _ (Or.inr (Or.inl ⟨rfl, kd, pl, f, y1, y2, y3, fun d h0 hm Qm x F kq => eM_lnB_month x F hβ hK hn y3 gg kq⟩))

set_option maxHeartbeats 800000 in
set_option maxRecDepth 100000 in
theorem ev_lnF_person {d : Nat} {h : jx_H} {Q : Option jx_V → jx_H → Prop} {h0 : jx_H} {B : Nat → Int32} {sz T β ρ t : Nat} {V : Nat → Nat → Nat} {W : Nat → Nat → List Nat} {D : Nat → Int32} (x : jLS h0 h B sz T ρ t V W D) (hβ : β < 2) (hK : jT_K B sz t = 109) (hn : V 0 1 = 5) (k : ∀ r h', jEL h0 B sz T β ρ t V W D r h' → Q r h')  : jx_Ev jm_Rdr_readLine (d + 86) 0 0 false 0 [jv_r 6 0] h Q := by
  show jx_W (jm_Rdr_readLine, d + 86, 0, 0, false, 0, _) Q 0 0 0 [some (jv_r 6 0)] [] _
  obtain ⟨xz, xD, xF, ⟨v1, v2, v3, -, -, -, -, v8, -, -, v11, v12, -, -, -, -, v17, -, -, -, -⟩, x5, x6⟩ := id x
  have w5 : V 12 5 ≤ 1 := (v17 5 (by decide)).1
  have hkl : jT_K B sz t < 256 := jT_k_lt
  have hk : jh_I h 9 0 8 = nI (jT_K B sz t) := xz.2.1.2.1
  have hρ : jh_M h 6 0 4 = ρ + 1 := xD.2.2.2.2.2.2.2.2.2.2.2.2.2.2
  have xi : jh_I h 6 0 5 = nI (jbt V) := xD.2.2.2.2.2.2.2.2.2.2.2.1
  have c0 : jh_I h 7 ρ 0 = nI (V 0 0) := xD.1.1
  have c3 : jh_I h 7 ρ 3 = nI (V 0 1) := xD.2.1.1
  have c5 : jh_I h 7 ρ 5 = nI (V 0 2) := xD.2.2.1.1
  refine jr_aload rfl rfl ?_
  refine jr_getR rfl rfl rfl rfl (Or.inl rfl) ?_
  refine jr_getI rfl rfl ?_
  rw [show jh_I h 9 0 8 = (109 : Int32) from hk.trans (congrArg nI hK)]
  refine jr_lsw rfl ?_
  refine ⟨fun z => absurd z (by decide), fun _ => ?_⟩
  refine ⟨fun _ => ?_, fun z => absurd (by decide) z⟩
  refine jr_aload rfl rfl ?_
  refine jr_aload rfl rfl ?_
  refine jr_getM rfl rfl rfl rfl hρ ?_
  refine jr_getI rfl rfl ?_
  refine jr_ic rfl ?_
  refine jr_icmp_ge rfl (fun _ => ?_) (fun z => absurd (by rw [c3, hn]; decide) z)
  refine jr_ic rfl ?_
  refine jr_cv1 (mc' := 0) (ms' := 0) rfl jm_Rdr_beginLine_n jm_Rdr_beginLine_f rfl rfl rfl rfl rfl rfl rfl (Nat.zero_le _) (Nat.zero_le _) ?_
  show jx_W (jm_Rdr_beginLine, _, _, _, _, _, _) _ 0 0 0 [some _, some _] [] _
  refine jr_iload rfl rfl ?_
  refine jr_if_ne rfl (fun z => absurd (by decide) z) (fun _ => ?_)
  refine jr_aload rfl rfl ?_
  refine jr_ic rfl ?_
  refine jr_cv1 (mc' := 0) (ms' := 0) rfl jm_Rdr_refuse_n jm_Rdr_refuse_f rfl rfl rfl rfl rfl rfl rfl (Nat.zero_le _) (Nat.zero_le _) ?_
  refine ev_refuse (B := B) (sz := sz) (t := t) xz.2.1 (fun h1 g1 => ?_)
  refine jr_zret rfl rfl rfl (Nat.zero_le _) (Nat.zero_le _) ?_
  refine jr_if_eq rfl (fun _ => ?_) (fun z => absurd (by decide) z)
  refine jr_ic rfl ?_
  refine jr_zret rfl rfl rfl (Nat.zero_le _) (Nat.zero_le _) ?_
  exact k _ _ (Or.inr (Or.inl ⟨rfl, _, _, jCF_f xF (jCf_ft g1), g1.2.2.2.1, g1.2.2.2.2, ⟨by first | exact jX_kd_n _ | decide, jT_p_le⟩, fun d h0 hm Qm x F kq => eM_lnF_person x F hβ hK hn kq⟩))

set_option maxHeartbeats 800000 in
set_option maxRecDepth 100000 in
theorem ev_lnG_person {d : Nat} {h : jx_H} {Q : Option jx_V → jx_H → Prop} {h0 : jx_H} {B : Nat → Int32} {sz T β ρ t : Nat} {V : Nat → Nat → Nat} {W : Nat → Nat → List Nat} {D : Nat → Int32} (x : jLS h0 h B sz T ρ t V W D) (hβ : β < 2) (hK : jT_K B sz t = 109) (hn : V 0 1 < 5) (k : ∀ r h', jEL h0 B sz T β ρ t V W D r h' → Q r h')  : jx_Ev jm_Rdr_readLine (d + 86) 0 0 false 0 [jv_r 6 0] h Q := by
  show jx_W (jm_Rdr_readLine, d + 86, 0, 0, false, 0, _) Q 0 0 0 [some (jv_r 6 0)] [] _
  obtain ⟨xz, xD, xF, ⟨v1, v2, v3, -, -, -, -, v8, -, -, v11, v12, -, -, -, -, v17, -, -, -, -⟩, x5, x6⟩ := id x
  have w5 : V 12 5 ≤ 1 := (v17 5 (by decide)).1
  have hkl : jT_K B sz t < 256 := jT_k_lt
  have hk : jh_I h 9 0 8 = nI (jT_K B sz t) := xz.2.1.2.1
  have hρ : jh_M h 6 0 4 = ρ + 1 := xD.2.2.2.2.2.2.2.2.2.2.2.2.2.2
  have xi : jh_I h 6 0 5 = nI (jbt V) := xD.2.2.2.2.2.2.2.2.2.2.2.1
  have c0 : jh_I h 7 ρ 0 = nI (V 0 0) := xD.1.1
  have c3 : jh_I h 7 ρ 3 = nI (V 0 1) := xD.2.1.1
  have c5 : jh_I h 7 ρ 5 = nI (V 0 2) := xD.2.2.1.1
  have hn1 := jT_next xz.1 xz.2.2 (show jT_K B sz t ≠ 0 by omega)
  refine jr_aload rfl rfl ?_
  refine jr_getR rfl rfl rfl rfl (Or.inl rfl) ?_
  refine jr_getI rfl rfl ?_
  rw [show jh_I h 9 0 8 = (109 : Int32) from hk.trans (congrArg nI hK)]
  refine jr_lsw rfl ?_
  refine ⟨fun z => absurd z (by decide), fun _ => ?_⟩
  refine ⟨fun _ => ?_, fun z => absurd (by decide) z⟩
  refine jr_aload rfl rfl ?_
  refine jr_aload rfl rfl ?_
  refine jr_getM rfl rfl rfl rfl hρ ?_
  refine jr_getI rfl rfl ?_
  refine jr_ic rfl ?_
  refine jr_icmp_ge rfl (fun z => absurd z (by rw [c3]; exact nI_ge (a := V 0 1) (b := 5) hn (by decide))) (fun _ => ?_)
  refine jr_ic rfl ?_
  refine jr_goto rfl ?_
  refine jr_cv1 (mc' := 0) (ms' := 0) rfl jm_Rdr_beginLine_n jm_Rdr_beginLine_f rfl rfl rfl rfl rfl rfl rfl (Nat.zero_le _) (Nat.zero_le _) ?_
  show jx_W (jm_Rdr_beginLine, _, _, _, _, _, _) _ 0 0 0 [some _, some _] [] _
  refine jr_iload rfl rfl ?_
  refine jr_if_ne rfl (fun _ => ?_) (fun z => absurd z (by decide))
  refine jr_aload rfl rfl ?_
  refine jr_getR rfl rfl rfl rfl (Or.inl rfl) ?_
  refine jr_cv0 (mc' := 0) (ms' := 0) rfl jm_Tape_take_n jm_Tape_take_f rfl rfl rfl rfl rfl rfl rfl (Nat.zero_le _) (Nat.zero_le _) ?_
  refine ev_take (B := B) (sz := sz) (T := T) (t := t + 1) xz.1 xz.2.1.1 hn1 (fun h1 g1 c1 => ?_)
  have x1 : jLS h0 h1 B sz T ρ (t + 1) V W D := jLS_f x (jCf_G g1) (jTS_take xz g1 c1 hn1)
  refine jr_ic rfl ?_
  refine jr_zret rfl rfl rfl (Nat.zero_le _) (Nat.zero_le _) ?_
  refine jr_if_eq rfl (fun z => absurd z (by decide)) (fun _ => ?_)
  refine jr_aload rfl rfl ?_
  refine jr_cv0 (mc' := 0) (ms' := 0) rfl jm_Rdr_readPerson_n jm_Rdr_readPerson_f rfl rfl rfl rfl rfl rfl rfl (Nat.zero_le _) (Nat.zero_le _) ?_
  refine ev_person (β := β) x1 hβ hn (fun r h2 o => ?_)
  rcases o with (⟨rfl, t2, V2, W2, D2, hs, y, gg⟩ | ⟨rfl, kd, pl, f, y1, y2, y3, gg⟩) | ⟨rfl, t2, z, rk, f, gg⟩
  · refine jr_if_eq rfl (fun z => absurd z (by decide)) (fun _ => ?_)
    refine jr_ic rfl ?_
    refine jr_goto rfl ?_
    refine jr_zret rfl rfl rfl (Nat.zero_le _) (Nat.zero_le _) ?_
    exact k _ _ (Or.inl ⟨rfl, t2, V2, W2, D2, hs, y, 123581014175598, fun d h0 hm Qm x F kq => eM_lnG_person x F hβ hK hn gg kq⟩)
  · refine jr_if_eq rfl (fun _ => ?_) (fun z => absurd (by decide) z)
    refine jr_ic rfl ?_
    refine jr_zret rfl rfl rfl (Nat.zero_le _) (Nat.zero_le _) ?_
    exact k _ _ (Or.inr (Or.inl ⟨rfl, kd, pl, f, y1, y2, y3, fun d h0 hm Qm x F kq => eM_lnB_person x F hβ hK hn y3 gg kq⟩))
  · refine jr_if_eq rfl (fun z => absurd z (by decide)) (fun _ => ?_)
    refine jr_ic rfl ?_
    refine jr_goto rfl ?_
    refine jr_zret rfl rfl rfl (Nat.zero_le _) (Nat.zero_le _) ?_
    exact k _ _ (Or.inr (Or.inr ⟨rfl, t2, z, rk, f, fun d h0 hm Qm x F kq => eM_lnB_person x F hβ hK hn (kd := 2) (pl := jT_p B sz t2) ⟨by decide, jT_p_le⟩ gg kq⟩))

set_option maxHeartbeats 800000 in
set_option maxRecDepth 100000 in
theorem ev_lnF_due {d : Nat} {h : jx_H} {Q : Option jx_V → jx_H → Prop} {h0 : jx_H} {B : Nat → Int32} {sz T β ρ t : Nat} {V : Nat → Nat → Nat} {W : Nat → Nat → List Nat} {D : Nat → Int32} (x : jLS h0 h B sz T ρ t V W D) (hβ : β < 2) (hK : jT_K B sz t = 112) (hn : V 0 2 = 12) (k : ∀ r h', jEL h0 B sz T β ρ t V W D r h' → Q r h')  : jx_Ev jm_Rdr_readLine (d + 86) 0 0 false 0 [jv_r 6 0] h Q := by
  show jx_W (jm_Rdr_readLine, d + 86, 0, 0, false, 0, _) Q 0 0 0 [some (jv_r 6 0)] [] _
  obtain ⟨xz, xD, xF, ⟨v1, v2, v3, -, -, -, -, v8, -, -, v11, v12, -, -, -, -, v17, -, -, -, -⟩, x5, x6⟩ := id x
  have w5 : V 12 5 ≤ 1 := (v17 5 (by decide)).1
  have hkl : jT_K B sz t < 256 := jT_k_lt
  have hk : jh_I h 9 0 8 = nI (jT_K B sz t) := xz.2.1.2.1
  have hρ : jh_M h 6 0 4 = ρ + 1 := xD.2.2.2.2.2.2.2.2.2.2.2.2.2.2
  have xi : jh_I h 6 0 5 = nI (jbt V) := xD.2.2.2.2.2.2.2.2.2.2.2.1
  have c0 : jh_I h 7 ρ 0 = nI (V 0 0) := xD.1.1
  have c3 : jh_I h 7 ρ 3 = nI (V 0 1) := xD.2.1.1
  have c5 : jh_I h 7 ρ 5 = nI (V 0 2) := xD.2.2.1.1
  refine jr_aload rfl rfl ?_
  refine jr_getR rfl rfl rfl rfl (Or.inl rfl) ?_
  refine jr_getI rfl rfl ?_
  rw [show jh_I h 9 0 8 = (112 : Int32) from hk.trans (congrArg nI hK)]
  refine jr_lsw rfl ?_
  refine ⟨fun z => absurd z (by decide), fun _ => ?_⟩
  refine ⟨fun z => absurd z (by decide), fun _ => ?_⟩
  refine ⟨fun _ => ?_, fun z => absurd (by decide) z⟩
  refine jr_aload rfl rfl ?_
  refine jr_aload rfl rfl ?_
  refine jr_getM rfl rfl rfl rfl hρ ?_
  refine jr_getI rfl rfl ?_
  refine jr_ic rfl ?_
  refine jr_icmp_ge rfl (fun _ => ?_) (fun z => absurd (by rw [c5, hn]; decide) z)
  refine jr_ic rfl ?_
  refine jr_cv1 (mc' := 0) (ms' := 0) rfl jm_Rdr_beginLine_n jm_Rdr_beginLine_f rfl rfl rfl rfl rfl rfl rfl (Nat.zero_le _) (Nat.zero_le _) ?_
  show jx_W (jm_Rdr_beginLine, _, _, _, _, _, _) _ 0 0 0 [some _, some _] [] _
  refine jr_iload rfl rfl ?_
  refine jr_if_ne rfl (fun z => absurd (by decide) z) (fun _ => ?_)
  refine jr_aload rfl rfl ?_
  refine jr_ic rfl ?_
  refine jr_cv1 (mc' := 0) (ms' := 0) rfl jm_Rdr_refuse_n jm_Rdr_refuse_f rfl rfl rfl rfl rfl rfl rfl (Nat.zero_le _) (Nat.zero_le _) ?_
  refine ev_refuse (B := B) (sz := sz) (t := t) xz.2.1 (fun h1 g1 => ?_)
  refine jr_zret rfl rfl rfl (Nat.zero_le _) (Nat.zero_le _) ?_
  refine jr_if_eq rfl (fun _ => ?_) (fun z => absurd (by decide) z)
  refine jr_ic rfl ?_
  refine jr_zret rfl rfl rfl (Nat.zero_le _) (Nat.zero_le _) ?_
  exact k _ _ (Or.inr (Or.inl ⟨rfl, _, _, jCF_f xF (jCf_ft g1), g1.2.2.2.1, g1.2.2.2.2, ⟨by first | exact jX_kd_n _ | decide, jT_p_le⟩, fun d h0 hm Qm x F kq => eM_lnF_due x F hβ hK hn kq⟩))

set_option maxHeartbeats 800000 in
set_option maxRecDepth 100000 in
theorem ev_lnG_due {d : Nat} {h : jx_H} {Q : Option jx_V → jx_H → Prop} {h0 : jx_H} {B : Nat → Int32} {sz T β ρ t : Nat} {V : Nat → Nat → Nat} {W : Nat → Nat → List Nat} {D : Nat → Int32} (x : jLS h0 h B sz T ρ t V W D) (hβ : β < 2) (hK : jT_K B sz t = 112) (hn : V 0 2 < 12) (k : ∀ r h', jEL h0 B sz T β ρ t V W D r h' → Q r h')  : jx_Ev jm_Rdr_readLine (d + 86) 0 0 false 0 [jv_r 6 0] h Q := by
  show jx_W (jm_Rdr_readLine, d + 86, 0, 0, false, 0, _) Q 0 0 0 [some (jv_r 6 0)] [] _
  obtain ⟨xz, xD, xF, ⟨v1, v2, v3, -, -, -, -, v8, -, -, v11, v12, -, -, -, -, v17, -, -, -, -⟩, x5, x6⟩ := id x
  have w5 : V 12 5 ≤ 1 := (v17 5 (by decide)).1
  have hkl : jT_K B sz t < 256 := jT_k_lt
  have hk : jh_I h 9 0 8 = nI (jT_K B sz t) := xz.2.1.2.1
  have hρ : jh_M h 6 0 4 = ρ + 1 := xD.2.2.2.2.2.2.2.2.2.2.2.2.2.2
  have xi : jh_I h 6 0 5 = nI (jbt V) := xD.2.2.2.2.2.2.2.2.2.2.2.1
  have c0 : jh_I h 7 ρ 0 = nI (V 0 0) := xD.1.1
  have c3 : jh_I h 7 ρ 3 = nI (V 0 1) := xD.2.1.1
  have c5 : jh_I h 7 ρ 5 = nI (V 0 2) := xD.2.2.1.1
  have hn1 := jT_next xz.1 xz.2.2 (show jT_K B sz t ≠ 0 by omega)
  refine jr_aload rfl rfl ?_
  refine jr_getR rfl rfl rfl rfl (Or.inl rfl) ?_
  refine jr_getI rfl rfl ?_
  rw [show jh_I h 9 0 8 = (112 : Int32) from hk.trans (congrArg nI hK)]
  refine jr_lsw rfl ?_
  refine ⟨fun z => absurd z (by decide), fun _ => ?_⟩
  refine ⟨fun z => absurd z (by decide), fun _ => ?_⟩
  refine ⟨fun _ => ?_, fun z => absurd (by decide) z⟩
  refine jr_aload rfl rfl ?_
  refine jr_aload rfl rfl ?_
  refine jr_getM rfl rfl rfl rfl hρ ?_
  refine jr_getI rfl rfl ?_
  refine jr_ic rfl ?_
  refine jr_icmp_ge rfl (fun z => absurd z (by rw [c5]; exact nI_ge (a := V 0 2) (b := 12) hn (by decide))) (fun _ => ?_)
  refine jr_ic rfl ?_
  refine jr_goto rfl ?_
  refine jr_cv1 (mc' := 0) (ms' := 0) rfl jm_Rdr_beginLine_n jm_Rdr_beginLine_f rfl rfl rfl rfl rfl rfl rfl (Nat.zero_le _) (Nat.zero_le _) ?_
  show jx_W (jm_Rdr_beginLine, _, _, _, _, _, _) _ 0 0 0 [some _, some _] [] _
  refine jr_iload rfl rfl ?_
  refine jr_if_ne rfl (fun _ => ?_) (fun z => absurd z (by decide))
  refine jr_aload rfl rfl ?_
  refine jr_getR rfl rfl rfl rfl (Or.inl rfl) ?_
  refine jr_cv0 (mc' := 0) (ms' := 0) rfl jm_Tape_take_n jm_Tape_take_f rfl rfl rfl rfl rfl rfl rfl (Nat.zero_le _) (Nat.zero_le _) ?_
  refine ev_take (B := B) (sz := sz) (T := T) (t := t + 1) xz.1 xz.2.1.1 hn1 (fun h1 g1 c1 => ?_)
  have x1 : jLS h0 h1 B sz T ρ (t + 1) V W D := jLS_f x (jCf_G g1) (jTS_take xz g1 c1 hn1)
  refine jr_ic rfl ?_
  refine jr_zret rfl rfl rfl (Nat.zero_le _) (Nat.zero_le _) ?_
  refine jr_if_eq rfl (fun z => absurd z (by decide)) (fun _ => ?_)
  refine jr_aload rfl rfl ?_
  refine jr_cv0 (mc' := 0) (ms' := 0) rfl jm_Rdr_readDue_n jm_Rdr_readDue_f rfl rfl rfl rfl rfl rfl rfl (Nat.zero_le _) (Nat.zero_le _) ?_
  refine ev_due (β := β) x1 hβ hn (fun r h2 o => ?_)
  rcases o with ⟨rfl, t2, V2, W2, D2, hs, y, gg⟩ | ⟨rfl, kd, pl, f, y1, y2, y3, gg⟩
  · refine jr_if_eq rfl (fun z => absurd z (by decide)) (fun _ => ?_)
    refine jr_ic rfl ?_
    refine jr_goto rfl ?_
    refine jr_zret rfl rfl rfl (Nat.zero_le _) (Nat.zero_le _) ?_
    exact k _ _ (Or.inl ⟨rfl, t2, V2, W2, D2, hs, y, 6583653, fun d h0 hm Qm x F kq => eM_lnG_due x F hβ hK hn gg kq⟩)
  · refine jr_if_eq rfl (fun _ => ?_) (fun z => absurd (by decide) z)
    refine jr_ic rfl ?_
    refine jr_zret rfl rfl rfl (Nat.zero_le _) (Nat.zero_le _) ?_
    exact k _ _ (Or.inr (Or.inl ⟨rfl, kd, pl, f, y1, y2, y3, fun d h0 hm Qm x F kq => eM_lnB_due x F hβ hK hn y3 gg kq⟩))

set_option maxHeartbeats 800000 in
set_option maxRecDepth 100000 in
theorem ev_lnF_sun {d : Nat} {h : jx_H} {Q : Option jx_V → jx_H → Prop} {h0 : jx_H} {B : Nat → Int32} {sz T β ρ t : Nat} {V : Nat → Nat → Nat} {W : Nat → Nat → List Nat} {D : Nat → Int32} (x : jLS h0 h B sz T ρ t V W D) (hβ : β < 2) (hK : jT_K B sz t = 118) (hn : V 0 5 = 1) (k : ∀ r h', jEL h0 B sz T β ρ t V W D r h' → Q r h')  : jx_Ev jm_Rdr_readLine (d + 86) 0 0 false 0 [jv_r 6 0] h Q := by
  show jx_W (jm_Rdr_readLine, d + 86, 0, 0, false, 0, _) Q 0 0 0 [some (jv_r 6 0)] [] _
  obtain ⟨xz, xD, xF, ⟨v1, v2, v3, -, -, -, -, v8, -, -, v11, v12, -, -, -, -, v17, -, -, -, -⟩, x5, x6⟩ := id x
  have w5 : V 12 5 ≤ 1 := (v17 5 (by decide)).1
  have hkl : jT_K B sz t < 256 := jT_k_lt
  have hk : jh_I h 9 0 8 = nI (jT_K B sz t) := xz.2.1.2.1
  have hρ : jh_M h 6 0 4 = ρ + 1 := xD.2.2.2.2.2.2.2.2.2.2.2.2.2.2
  have xi : jh_I h 6 0 5 = nI (jbt V) := xD.2.2.2.2.2.2.2.2.2.2.2.1
  have c0 : jh_I h 7 ρ 0 = nI (V 0 0) := xD.1.1
  have c3 : jh_I h 7 ρ 3 = nI (V 0 1) := xD.2.1.1
  have c5 : jh_I h 7 ρ 5 = nI (V 0 2) := xD.2.2.1.1
  refine jr_aload rfl rfl ?_
  refine jr_getR rfl rfl rfl rfl (Or.inl rfl) ?_
  refine jr_getI rfl rfl ?_
  rw [show jh_I h 9 0 8 = (118 : Int32) from hk.trans (congrArg nI hK)]
  refine jr_lsw rfl ?_
  refine ⟨fun z => absurd z (by decide), fun _ => ?_⟩
  refine ⟨fun z => absurd z (by decide), fun _ => ?_⟩
  refine ⟨fun z => absurd z (by decide), fun _ => ?_⟩
  refine ⟨fun _ => ?_, fun z => absurd (by decide) z⟩
  refine jr_aload rfl rfl ?_
  refine jr_ic rfl ?_
  refine jr_cv1 (mc' := 0) (ms' := 0) rfl jm_Rdr_beginOnce_n jm_Rdr_beginOnce_f rfl rfl rfl rfl rfl rfl rfl (Nat.zero_le _) (Nat.zero_le _) ?_
  show jx_W (jm_Rdr_beginOnce, _, _, _, _, _, _) _ 0 0 0 [some _, some _, none] [] _
  refine jr_aload rfl rfl ?_
  refine jr_getI rfl rfl ?_
  refine jr_iload rfl rfl ?_
  refine jr_iand rfl ?_
  refine jr_if_ne rfl (fun _ => ?_) (fun z => absurd z (by rw [xi]; intro z; have z2 := (jb_a1 _ (by unfold jbt; omega)).mp z; unfold jbt at z2; omega))
  refine jr_ic rfl ?_
  refine jr_ist2 rfl rfl ?_
  refine jr_aload rfl rfl ?_
  refine jr_dup_r rfl ?_
  refine jr_getI rfl rfl ?_
  refine jr_iload rfl rfl ?_
  refine jr_ior rfl ?_
  refine jr_putI rfl rfl ?_
  refine jr_aload rfl rfl ?_
  refine jr_iload rfl rfl ?_
  refine jr_cv1 (mc' := 0) (ms' := 0) rfl jm_Rdr_beginLine_n jm_Rdr_beginLine_f rfl rfl rfl rfl rfl rfl rfl (Nat.zero_le _) (Nat.zero_le _) ?_
  show jx_W (jm_Rdr_beginLine, _, _, _, _, _, _) _ 0 0 0 [some _, some _] [] _
  refine jr_iload rfl rfl ?_
  refine jr_if_ne rfl (fun z => absurd (by decide) z) (fun _ => ?_)
  refine jr_aload rfl rfl ?_
  refine jr_ic rfl ?_
  refine jr_cv1 (mc' := 0) (ms' := 0) rfl jm_Rdr_refuse_n jm_Rdr_refuse_f rfl rfl rfl rfl rfl rfl rfl (Nat.zero_le _) (Nat.zero_le _) ?_
  refine ev_refuse (B := B) (sz := sz) (t := t) (h := (ju_I h 6 0 (upd (jh_I h 6 0) 5 (jh_I h 6 0 5 ||| 1)))) xz.2.1 (fun h1 g1 => ?_)
  refine jr_zret rfl rfl rfl (Nat.zero_le _) (Nat.zero_le _) ?_
  refine jr_zret rfl rfl rfl (Nat.zero_le _) (Nat.zero_le _) ?_
  refine jr_if_eq rfl (fun _ => ?_) (fun z => absurd (by decide) z)
  refine jr_ic rfl ?_
  refine jr_zret rfl rfl rfl (Nat.zero_le _) (Nat.zero_le _) ?_
  exact k _ _ (Or.inr (Or.inl ⟨rfl, _, _, jCF_f (jCF_6 xF) (jCf_ft g1), g1.2.2.2.1, g1.2.2.2.2, ⟨by first | exact jX_kd_n _ | decide, jT_p_le⟩, fun d h0 hm Qm x F kq => eM_lnF_sun x F hβ hK hn kq⟩))

set_option maxHeartbeats 800000 in
set_option maxRecDepth 100000 in
theorem ev_lnG_sun {d : Nat} {h : jx_H} {Q : Option jx_V → jx_H → Prop} {h0 : jx_H} {B : Nat → Int32} {sz T β ρ t : Nat} {V : Nat → Nat → Nat} {W : Nat → Nat → List Nat} {D : Nat → Int32} (x : jLS h0 h B sz T ρ t V W D) (hβ : β < 2) (hK : jT_K B sz t = 118) (hn : V 0 5 = 0) (k : ∀ r h', jEL h0 B sz T β ρ t V W D r h' → Q r h')  : jx_Ev jm_Rdr_readLine (d + 86) 0 0 false 0 [jv_r 6 0] h Q := by
  show jx_W (jm_Rdr_readLine, d + 86, 0, 0, false, 0, _) Q 0 0 0 [some (jv_r 6 0)] [] _
  obtain ⟨xz, xD, xF, ⟨v1, v2, v3, -, -, -, -, v8, -, -, v11, v12, -, -, -, -, v17, -, -, -, -⟩, x5, x6⟩ := id x
  have w5 : V 12 5 ≤ 1 := (v17 5 (by decide)).1
  have hkl : jT_K B sz t < 256 := jT_k_lt
  have hk : jh_I h 9 0 8 = nI (jT_K B sz t) := xz.2.1.2.1
  have hρ : jh_M h 6 0 4 = ρ + 1 := xD.2.2.2.2.2.2.2.2.2.2.2.2.2.2
  have xi : jh_I h 6 0 5 = nI (jbt V) := xD.2.2.2.2.2.2.2.2.2.2.2.1
  have c0 : jh_I h 7 ρ 0 = nI (V 0 0) := xD.1.1
  have c3 : jh_I h 7 ρ 3 = nI (V 0 1) := xD.2.1.1
  have c5 : jh_I h 7 ρ 5 = nI (V 0 2) := xD.2.2.1.1
  have hn1 := jT_next xz.1 xz.2.2 (show jT_K B sz t ≠ 0 by omega)
  refine jr_aload rfl rfl ?_
  refine jr_getR rfl rfl rfl rfl (Or.inl rfl) ?_
  refine jr_getI rfl rfl ?_
  rw [show jh_I h 9 0 8 = (118 : Int32) from hk.trans (congrArg nI hK)]
  refine jr_lsw rfl ?_
  refine ⟨fun z => absurd z (by decide), fun _ => ?_⟩
  refine ⟨fun z => absurd z (by decide), fun _ => ?_⟩
  refine ⟨fun z => absurd z (by decide), fun _ => ?_⟩
  refine ⟨fun _ => ?_, fun z => absurd (by decide) z⟩
  refine jr_aload rfl rfl ?_
  refine jr_ic rfl ?_
  refine jr_cv1 (mc' := 0) (ms' := 0) rfl jm_Rdr_beginOnce_n jm_Rdr_beginOnce_f rfl rfl rfl rfl rfl rfl rfl (Nat.zero_le _) (Nat.zero_le _) ?_
  show jx_W (jm_Rdr_beginOnce, _, _, _, _, _, _) _ 0 0 0 [some _, some _, none] [] _
  refine jr_aload rfl rfl ?_
  refine jr_getI rfl rfl ?_
  refine jr_iload rfl rfl ?_
  refine jr_iand rfl ?_
  refine jr_if_ne rfl (fun z => absurd (by rw [xi]; exact (jb_a1 _ (by unfold jbt; omega)).mpr (by unfold jbt; omega)) z) (fun _ => ?_)
  refine jr_ic rfl ?_
  refine jr_goto rfl ?_
  refine jr_ist2 rfl rfl ?_
  refine jr_aload rfl rfl ?_
  refine jr_dup_r rfl ?_
  refine jr_getI rfl rfl ?_
  refine jr_iload rfl rfl ?_
  refine jr_ior rfl ?_
  refine jr_putI rfl rfl ?_
  refine jr_aload rfl rfl ?_
  refine jr_iload rfl rfl ?_
  refine jr_cv1 (mc' := 0) (ms' := 0) rfl jm_Rdr_beginLine_n jm_Rdr_beginLine_f rfl rfl rfl rfl rfl rfl rfl (Nat.zero_le _) (Nat.zero_le _) ?_
  show jx_W (jm_Rdr_beginLine, _, _, _, _, _, _) _ 0 0 0 [some _, some _] [] _
  refine jr_iload rfl rfl ?_
  refine jr_if_ne rfl (fun _ => ?_) (fun z => absurd z (by decide))
  refine jr_aload rfl rfl ?_
  refine jr_getR rfl rfl rfl rfl (Or.inl rfl) ?_
  refine jr_cv0 (mc' := 0) (ms' := 0) rfl jm_Tape_take_n jm_Tape_take_f rfl rfl rfl rfl rfl rfl rfl (Nat.zero_le _) (Nat.zero_le _) ?_
  refine ev_take (B := B) (sz := sz) (T := T) (t := t + 1) (h := (ju_I h 6 0 (upd (jh_I h 6 0) 5 (jh_I h 6 0 5 ||| 1)))) xz.1 xz.2.1.1 hn1 (fun h1 g1 c1 => ?_)
  have x1 := jLS_once x g1 c1 hn1
  have xb1 : jh_I h1 6 0 5 = nI (jbt V + 1) := (jLS_bit g1).trans (by rw [xi]; exact jb_o1 _ (by unfold jbt; omega) (by unfold jbt; omega))
  refine jr_ic rfl ?_
  refine jr_zret rfl rfl rfl (Nat.zero_le _) (Nat.zero_le _) ?_
  refine jr_zret rfl rfl rfl (Nat.zero_le _) (Nat.zero_le _) ?_
  refine jr_if_eq rfl (fun z => absurd z (by decide)) (fun _ => ?_)
  refine jr_aload rfl rfl ?_
  refine jr_cv0 (mc' := 0) (ms' := 0) rfl jm_Rdr_readSun_n jm_Rdr_readSun_f rfl rfl rfl rfl rfl rfl rfl (Nat.zero_le _) (Nat.zero_le _) ?_
  refine ev_sun (β := β) x1 xb1 hn hβ (fun r h2 o => ?_)
  rcases o with ⟨rfl, t2, V2, W2, D2, hs, y, gg⟩ | ⟨rfl, kd, pl, f, y1, y2, y3, gg⟩
  · refine jr_if_eq rfl (fun z => absurd z (by decide)) (fun _ => ?_)
    refine jr_ic rfl ?_
    refine jr_goto rfl ?_
    refine jr_zret rfl rfl rfl (Nat.zero_le _) (Nat.zero_le _) ?_
    exact k _ _ (Or.inl ⟨rfl, t2, V2, W2, D2, hs, y, 7566702, fun d h0 hm Qm x F kq => eM_lnG_sun x F hβ hK hn gg kq⟩)
  · refine jr_if_eq rfl (fun _ => ?_) (fun z => absurd (by decide) z)
    refine jr_ic rfl ?_
    refine jr_zret rfl rfl rfl (Nat.zero_le _) (Nat.zero_le _) ?_
    exact k _ _ (Or.inr (Or.inl ⟨rfl, kd, pl, f, y1, y2, y3, fun d h0 hm Qm x F kq => eM_lnB_sun x F hβ hK hn y3 gg kq⟩))

set_option maxHeartbeats 800000 in
set_option maxRecDepth 100000 in
theorem ev_lnF_count {d : Nat} {h : jx_H} {Q : Option jx_V → jx_H → Prop} {h0 : jx_H} {B : Nat → Int32} {sz T β ρ t : Nat} {V : Nat → Nat → Nat} {W : Nat → Nat → List Nat} {D : Nat → Int32} (x : jLS h0 h B sz T ρ t V W D) (hβ : β < 2) (hK : jT_K B sz t = 121) (hn : V 0 6 = 1) (k : ∀ r h', jEL h0 B sz T β ρ t V W D r h' → Q r h')  : jx_Ev jm_Rdr_readLine (d + 86) 0 0 false 0 [jv_r 6 0] h Q := by
  show jx_W (jm_Rdr_readLine, d + 86, 0, 0, false, 0, _) Q 0 0 0 [some (jv_r 6 0)] [] _
  obtain ⟨xz, xD, xF, ⟨v1, v2, v3, -, -, -, -, v8, -, -, v11, v12, -, -, -, -, v17, -, -, -, -⟩, x5, x6⟩ := id x
  have w5 : V 12 5 ≤ 1 := (v17 5 (by decide)).1
  have hkl : jT_K B sz t < 256 := jT_k_lt
  have hk : jh_I h 9 0 8 = nI (jT_K B sz t) := xz.2.1.2.1
  have hρ : jh_M h 6 0 4 = ρ + 1 := xD.2.2.2.2.2.2.2.2.2.2.2.2.2.2
  have xi : jh_I h 6 0 5 = nI (jbt V) := xD.2.2.2.2.2.2.2.2.2.2.2.1
  have c0 : jh_I h 7 ρ 0 = nI (V 0 0) := xD.1.1
  have c3 : jh_I h 7 ρ 3 = nI (V 0 1) := xD.2.1.1
  have c5 : jh_I h 7 ρ 5 = nI (V 0 2) := xD.2.2.1.1
  refine jr_aload rfl rfl ?_
  refine jr_getR rfl rfl rfl rfl (Or.inl rfl) ?_
  refine jr_getI rfl rfl ?_
  rw [show jh_I h 9 0 8 = (121 : Int32) from hk.trans (congrArg nI hK)]
  refine jr_lsw rfl ?_
  refine ⟨fun z => absurd z (by decide), fun _ => ?_⟩
  refine ⟨fun z => absurd z (by decide), fun _ => ?_⟩
  refine ⟨fun z => absurd z (by decide), fun _ => ?_⟩
  refine ⟨fun z => absurd z (by decide), fun _ => ?_⟩
  refine ⟨fun z => absurd z (by decide), fun _ => ?_⟩
  refine ⟨fun _ => ?_, fun z => absurd (by decide) z⟩
  refine jr_aload rfl rfl ?_
  refine jr_ic rfl ?_
  refine jr_cv1 (mc' := 0) (ms' := 0) rfl jm_Rdr_beginOnce_n jm_Rdr_beginOnce_f rfl rfl rfl rfl rfl rfl rfl (Nat.zero_le _) (Nat.zero_le _) ?_
  show jx_W (jm_Rdr_beginOnce, _, _, _, _, _, _) _ 0 0 0 [some _, some _, none] [] _
  refine jr_aload rfl rfl ?_
  refine jr_getI rfl rfl ?_
  refine jr_iload rfl rfl ?_
  refine jr_iand rfl ?_
  refine jr_if_ne rfl (fun _ => ?_) (fun z => absurd z (by rw [xi]; intro z; have z2 := (jb_a4 _ (by unfold jbt; omega)).mp z; unfold jbt at z2; omega))
  refine jr_ic rfl ?_
  refine jr_ist2 rfl rfl ?_
  refine jr_aload rfl rfl ?_
  refine jr_dup_r rfl ?_
  refine jr_getI rfl rfl ?_
  refine jr_iload rfl rfl ?_
  refine jr_ior rfl ?_
  refine jr_putI rfl rfl ?_
  refine jr_aload rfl rfl ?_
  refine jr_iload rfl rfl ?_
  refine jr_cv1 (mc' := 0) (ms' := 0) rfl jm_Rdr_beginLine_n jm_Rdr_beginLine_f rfl rfl rfl rfl rfl rfl rfl (Nat.zero_le _) (Nat.zero_le _) ?_
  show jx_W (jm_Rdr_beginLine, _, _, _, _, _, _) _ 0 0 0 [some _, some _] [] _
  refine jr_iload rfl rfl ?_
  refine jr_if_ne rfl (fun z => absurd (by decide) z) (fun _ => ?_)
  refine jr_aload rfl rfl ?_
  refine jr_ic rfl ?_
  refine jr_cv1 (mc' := 0) (ms' := 0) rfl jm_Rdr_refuse_n jm_Rdr_refuse_f rfl rfl rfl rfl rfl rfl rfl (Nat.zero_le _) (Nat.zero_le _) ?_
  refine ev_refuse (B := B) (sz := sz) (t := t) (h := (ju_I h 6 0 (upd (jh_I h 6 0) 5 (jh_I h 6 0 5 ||| 4)))) xz.2.1 (fun h1 g1 => ?_)
  refine jr_zret rfl rfl rfl (Nat.zero_le _) (Nat.zero_le _) ?_
  refine jr_zret rfl rfl rfl (Nat.zero_le _) (Nat.zero_le _) ?_
  refine jr_if_eq rfl (fun _ => ?_) (fun z => absurd (by decide) z)
  refine jr_ic rfl ?_
  refine jr_zret rfl rfl rfl (Nat.zero_le _) (Nat.zero_le _) ?_
  exact k _ _ (Or.inr (Or.inl ⟨rfl, _, _, jCF_f (jCF_6 xF) (jCf_ft g1), g1.2.2.2.1, g1.2.2.2.2, ⟨by first | exact jX_kd_n _ | decide, jT_p_le⟩, fun d h0 hm Qm x F kq => eM_lnF_count x F hβ hK hn kq⟩))

set_option maxHeartbeats 800000 in
set_option maxRecDepth 100000 in
theorem ev_lnG_count {d : Nat} {h : jx_H} {Q : Option jx_V → jx_H → Prop} {h0 : jx_H} {B : Nat → Int32} {sz T β ρ t : Nat} {V : Nat → Nat → Nat} {W : Nat → Nat → List Nat} {D : Nat → Int32} (x : jLS h0 h B sz T ρ t V W D) (hβ : β < 2) (hK : jT_K B sz t = 121) (hn : V 0 6 = 0) (k : ∀ r h', jEL h0 B sz T β ρ t V W D r h' → Q r h')  : jx_Ev jm_Rdr_readLine (d + 86) 0 0 false 0 [jv_r 6 0] h Q := by
  show jx_W (jm_Rdr_readLine, d + 86, 0, 0, false, 0, _) Q 0 0 0 [some (jv_r 6 0)] [] _
  obtain ⟨xz, xD, xF, ⟨v1, v2, v3, -, -, -, -, v8, -, -, v11, v12, -, -, -, -, v17, -, -, -, -⟩, x5, x6⟩ := id x
  have w5 : V 12 5 ≤ 1 := (v17 5 (by decide)).1
  have hkl : jT_K B sz t < 256 := jT_k_lt
  have hk : jh_I h 9 0 8 = nI (jT_K B sz t) := xz.2.1.2.1
  have hρ : jh_M h 6 0 4 = ρ + 1 := xD.2.2.2.2.2.2.2.2.2.2.2.2.2.2
  have xi : jh_I h 6 0 5 = nI (jbt V) := xD.2.2.2.2.2.2.2.2.2.2.2.1
  have c0 : jh_I h 7 ρ 0 = nI (V 0 0) := xD.1.1
  have c3 : jh_I h 7 ρ 3 = nI (V 0 1) := xD.2.1.1
  have c5 : jh_I h 7 ρ 5 = nI (V 0 2) := xD.2.2.1.1
  have hn1 := jT_next xz.1 xz.2.2 (show jT_K B sz t ≠ 0 by omega)
  refine jr_aload rfl rfl ?_
  refine jr_getR rfl rfl rfl rfl (Or.inl rfl) ?_
  refine jr_getI rfl rfl ?_
  rw [show jh_I h 9 0 8 = (121 : Int32) from hk.trans (congrArg nI hK)]
  refine jr_lsw rfl ?_
  refine ⟨fun z => absurd z (by decide), fun _ => ?_⟩
  refine ⟨fun z => absurd z (by decide), fun _ => ?_⟩
  refine ⟨fun z => absurd z (by decide), fun _ => ?_⟩
  refine ⟨fun z => absurd z (by decide), fun _ => ?_⟩
  refine ⟨fun z => absurd z (by decide), fun _ => ?_⟩
  refine ⟨fun _ => ?_, fun z => absurd (by decide) z⟩
  refine jr_aload rfl rfl ?_
  refine jr_ic rfl ?_
  refine jr_cv1 (mc' := 0) (ms' := 0) rfl jm_Rdr_beginOnce_n jm_Rdr_beginOnce_f rfl rfl rfl rfl rfl rfl rfl (Nat.zero_le _) (Nat.zero_le _) ?_
  show jx_W (jm_Rdr_beginOnce, _, _, _, _, _, _) _ 0 0 0 [some _, some _, none] [] _
  refine jr_aload rfl rfl ?_
  refine jr_getI rfl rfl ?_
  refine jr_iload rfl rfl ?_
  refine jr_iand rfl ?_
  refine jr_if_ne rfl (fun z => absurd (by rw [xi]; exact (jb_a4 _ (by unfold jbt; omega)).mpr (by unfold jbt; omega)) z) (fun _ => ?_)
  refine jr_ic rfl ?_
  refine jr_goto rfl ?_
  refine jr_ist2 rfl rfl ?_
  refine jr_aload rfl rfl ?_
  refine jr_dup_r rfl ?_
  refine jr_getI rfl rfl ?_
  refine jr_iload rfl rfl ?_
  refine jr_ior rfl ?_
  refine jr_putI rfl rfl ?_
  refine jr_aload rfl rfl ?_
  refine jr_iload rfl rfl ?_
  refine jr_cv1 (mc' := 0) (ms' := 0) rfl jm_Rdr_beginLine_n jm_Rdr_beginLine_f rfl rfl rfl rfl rfl rfl rfl (Nat.zero_le _) (Nat.zero_le _) ?_
  show jx_W (jm_Rdr_beginLine, _, _, _, _, _, _) _ 0 0 0 [some _, some _] [] _
  refine jr_iload rfl rfl ?_
  refine jr_if_ne rfl (fun _ => ?_) (fun z => absurd z (by decide))
  refine jr_aload rfl rfl ?_
  refine jr_getR rfl rfl rfl rfl (Or.inl rfl) ?_
  refine jr_cv0 (mc' := 0) (ms' := 0) rfl jm_Tape_take_n jm_Tape_take_f rfl rfl rfl rfl rfl rfl rfl (Nat.zero_le _) (Nat.zero_le _) ?_
  refine ev_take (B := B) (sz := sz) (T := T) (t := t + 1) (h := (ju_I h 6 0 (upd (jh_I h 6 0) 5 (jh_I h 6 0 5 ||| 4)))) xz.1 xz.2.1.1 hn1 (fun h1 g1 c1 => ?_)
  have x1 := jLS_once x g1 c1 hn1
  have xb1 : jh_I h1 6 0 5 = nI (jbt V + 4) := (jLS_bit g1).trans (by rw [xi]; exact jb_o4 _ (by unfold jbt; omega) (by unfold jbt; omega))
  refine jr_ic rfl ?_
  refine jr_zret rfl rfl rfl (Nat.zero_le _) (Nat.zero_le _) ?_
  refine jr_zret rfl rfl rfl (Nat.zero_le _) (Nat.zero_le _) ?_
  refine jr_if_eq rfl (fun z => absurd z (by decide)) (fun _ => ?_)
  refine jr_aload rfl rfl ?_
  refine jr_cv0 (mc' := 0) (ms' := 0) rfl jm_Rdr_readCount_n jm_Rdr_readCount_f rfl rfl rfl rfl rfl rfl rfl (Nat.zero_le _) (Nat.zero_le _) ?_
  refine ev_countL (β := β) x1 xb1 hn hβ (fun r h2 o => ?_)
  rcases o with ⟨rfl, t2, V2, W2, D2, hs, y, gg⟩ | ⟨rfl, kd, pl, f, y1, y2, y3, gg⟩
  · refine jr_if_eq rfl (fun z => absurd z (by decide)) (fun _ => ?_)
    refine jr_ic rfl ?_
    refine jr_goto rfl ?_
    refine jr_zret rfl rfl rfl (Nat.zero_le _) (Nat.zero_le _) ?_
    exact k _ _ (Or.inl ⟨rfl, t2, V2, W2, D2, hs, y, 427071729268, fun d h0 hm Qm x F kq => eM_lnG_count x F hβ hK hn gg kq⟩)
  · refine jr_if_eq rfl (fun _ => ?_) (fun z => absurd (by decide) z)
    refine jr_ic rfl ?_
    refine jr_zret rfl rfl rfl (Nat.zero_le _) (Nat.zero_le _) ?_
    exact k _ _ (Or.inr (Or.inl ⟨rfl, kd, pl, f, y1, y2, y3, fun d h0 hm Qm x F kq => eM_lnB_count x F hβ hK hn y3 gg kq⟩))

set_option maxHeartbeats 800000 in
set_option maxRecDepth 100000 in
theorem ev_lnF_week {d : Nat} {h : jx_H} {Q : Option jx_V → jx_H → Prop} {h0 : jx_H} {B : Nat → Int32} {sz T β ρ t : Nat} {V : Nat → Nat → Nat} {W : Nat → Nat → List Nat} {D : Nat → Int32} (x : jLS h0 h B sz T ρ t V W D) (hβ : β < 2) (hK : jT_K B sz t = 125) (hn : V 0 7 = 1) (k : ∀ r h', jEL h0 B sz T β ρ t V W D r h' → Q r h')  : jx_Ev jm_Rdr_readLine (d + 86) 0 0 false 0 [jv_r 6 0] h Q := by
  show jx_W (jm_Rdr_readLine, d + 86, 0, 0, false, 0, _) Q 0 0 0 [some (jv_r 6 0)] [] _
  obtain ⟨xz, xD, xF, ⟨v1, v2, v3, -, -, -, -, v8, -, -, v11, v12, -, -, -, -, v17, -, -, -, -⟩, x5, x6⟩ := id x
  have w5 : V 12 5 ≤ 1 := (v17 5 (by decide)).1
  have hkl : jT_K B sz t < 256 := jT_k_lt
  have hk : jh_I h 9 0 8 = nI (jT_K B sz t) := xz.2.1.2.1
  have hρ : jh_M h 6 0 4 = ρ + 1 := xD.2.2.2.2.2.2.2.2.2.2.2.2.2.2
  have xi : jh_I h 6 0 5 = nI (jbt V) := xD.2.2.2.2.2.2.2.2.2.2.2.1
  have c0 : jh_I h 7 ρ 0 = nI (V 0 0) := xD.1.1
  have c3 : jh_I h 7 ρ 3 = nI (V 0 1) := xD.2.1.1
  have c5 : jh_I h 7 ρ 5 = nI (V 0 2) := xD.2.2.1.1
  refine jr_aload rfl rfl ?_
  refine jr_getR rfl rfl rfl rfl (Or.inl rfl) ?_
  refine jr_getI rfl rfl ?_
  rw [show jh_I h 9 0 8 = (125 : Int32) from hk.trans (congrArg nI hK)]
  refine jr_lsw rfl ?_
  refine ⟨fun z => absurd z (by decide), fun _ => ?_⟩
  refine ⟨fun z => absurd z (by decide), fun _ => ?_⟩
  refine ⟨fun z => absurd z (by decide), fun _ => ?_⟩
  refine ⟨fun z => absurd z (by decide), fun _ => ?_⟩
  refine ⟨fun z => absurd z (by decide), fun _ => ?_⟩
  refine ⟨fun z => absurd z (by decide), fun _ => ?_⟩
  refine ⟨fun _ => ?_, fun z => absurd (by decide) z⟩
  refine jr_aload rfl rfl ?_
  refine jr_ic rfl ?_
  refine jr_cv1 (mc' := 0) (ms' := 0) rfl jm_Rdr_beginOnce_n jm_Rdr_beginOnce_f rfl rfl rfl rfl rfl rfl rfl (Nat.zero_le _) (Nat.zero_le _) ?_
  show jx_W (jm_Rdr_beginOnce, _, _, _, _, _, _) _ 0 0 0 [some _, some _, none] [] _
  refine jr_aload rfl rfl ?_
  refine jr_getI rfl rfl ?_
  refine jr_iload rfl rfl ?_
  refine jr_iand rfl ?_
  refine jr_if_ne rfl (fun _ => ?_) (fun z => absurd z (by rw [xi]; intro z; have z2 := (jb_a8 _ (by unfold jbt; omega)).mp z; unfold jbt at z2; omega))
  refine jr_ic rfl ?_
  refine jr_ist2 rfl rfl ?_
  refine jr_aload rfl rfl ?_
  refine jr_dup_r rfl ?_
  refine jr_getI rfl rfl ?_
  refine jr_iload rfl rfl ?_
  refine jr_ior rfl ?_
  refine jr_putI rfl rfl ?_
  refine jr_aload rfl rfl ?_
  refine jr_iload rfl rfl ?_
  refine jr_cv1 (mc' := 0) (ms' := 0) rfl jm_Rdr_beginLine_n jm_Rdr_beginLine_f rfl rfl rfl rfl rfl rfl rfl (Nat.zero_le _) (Nat.zero_le _) ?_
  show jx_W (jm_Rdr_beginLine, _, _, _, _, _, _) _ 0 0 0 [some _, some _] [] _
  refine jr_iload rfl rfl ?_
  refine jr_if_ne rfl (fun z => absurd (by decide) z) (fun _ => ?_)
  refine jr_aload rfl rfl ?_
  refine jr_ic rfl ?_
  refine jr_cv1 (mc' := 0) (ms' := 0) rfl jm_Rdr_refuse_n jm_Rdr_refuse_f rfl rfl rfl rfl rfl rfl rfl (Nat.zero_le _) (Nat.zero_le _) ?_
  refine ev_refuse (B := B) (sz := sz) (t := t) (h := (ju_I h 6 0 (upd (jh_I h 6 0) 5 (jh_I h 6 0 5 ||| 8)))) xz.2.1 (fun h1 g1 => ?_)
  refine jr_zret rfl rfl rfl (Nat.zero_le _) (Nat.zero_le _) ?_
  refine jr_zret rfl rfl rfl (Nat.zero_le _) (Nat.zero_le _) ?_
  refine jr_if_eq rfl (fun _ => ?_) (fun z => absurd (by decide) z)
  refine jr_ic rfl ?_
  refine jr_zret rfl rfl rfl (Nat.zero_le _) (Nat.zero_le _) ?_
  exact k _ _ (Or.inr (Or.inl ⟨rfl, _, _, jCF_f (jCF_6 xF) (jCf_ft g1), g1.2.2.2.1, g1.2.2.2.2, ⟨by first | exact jX_kd_n _ | decide, jT_p_le⟩, fun d h0 hm Qm x F kq => eM_lnF_week x F hβ hK hn kq⟩))

set_option maxHeartbeats 800000 in
set_option maxRecDepth 100000 in
theorem ev_lnG_week {d : Nat} {h : jx_H} {Q : Option jx_V → jx_H → Prop} {h0 : jx_H} {B : Nat → Int32} {sz T β ρ t : Nat} {V : Nat → Nat → Nat} {W : Nat → Nat → List Nat} {D : Nat → Int32} (x : jLS h0 h B sz T ρ t V W D) (hβ : β < 2) (hK : jT_K B sz t = 125) (hn : V 0 7 = 0) (k : ∀ r h', jEL h0 B sz T β ρ t V W D r h' → Q r h')  : jx_Ev jm_Rdr_readLine (d + 86) 0 0 false 0 [jv_r 6 0] h Q := by
  show jx_W (jm_Rdr_readLine, d + 86, 0, 0, false, 0, _) Q 0 0 0 [some (jv_r 6 0)] [] _
  obtain ⟨xz, xD, xF, ⟨v1, v2, v3, -, -, -, -, v8, -, -, v11, v12, -, -, -, -, v17, -, -, -, -⟩, x5, x6⟩ := id x
  have w5 : V 12 5 ≤ 1 := (v17 5 (by decide)).1
  have hkl : jT_K B sz t < 256 := jT_k_lt
  have hk : jh_I h 9 0 8 = nI (jT_K B sz t) := xz.2.1.2.1
  have hρ : jh_M h 6 0 4 = ρ + 1 := xD.2.2.2.2.2.2.2.2.2.2.2.2.2.2
  have xi : jh_I h 6 0 5 = nI (jbt V) := xD.2.2.2.2.2.2.2.2.2.2.2.1
  have c0 : jh_I h 7 ρ 0 = nI (V 0 0) := xD.1.1
  have c3 : jh_I h 7 ρ 3 = nI (V 0 1) := xD.2.1.1
  have c5 : jh_I h 7 ρ 5 = nI (V 0 2) := xD.2.2.1.1
  have hn1 := jT_next xz.1 xz.2.2 (show jT_K B sz t ≠ 0 by omega)
  refine jr_aload rfl rfl ?_
  refine jr_getR rfl rfl rfl rfl (Or.inl rfl) ?_
  refine jr_getI rfl rfl ?_
  rw [show jh_I h 9 0 8 = (125 : Int32) from hk.trans (congrArg nI hK)]
  refine jr_lsw rfl ?_
  refine ⟨fun z => absurd z (by decide), fun _ => ?_⟩
  refine ⟨fun z => absurd z (by decide), fun _ => ?_⟩
  refine ⟨fun z => absurd z (by decide), fun _ => ?_⟩
  refine ⟨fun z => absurd z (by decide), fun _ => ?_⟩
  refine ⟨fun z => absurd z (by decide), fun _ => ?_⟩
  refine ⟨fun z => absurd z (by decide), fun _ => ?_⟩
  refine ⟨fun _ => ?_, fun z => absurd (by decide) z⟩
  refine jr_aload rfl rfl ?_
  refine jr_ic rfl ?_
  refine jr_cv1 (mc' := 0) (ms' := 0) rfl jm_Rdr_beginOnce_n jm_Rdr_beginOnce_f rfl rfl rfl rfl rfl rfl rfl (Nat.zero_le _) (Nat.zero_le _) ?_
  show jx_W (jm_Rdr_beginOnce, _, _, _, _, _, _) _ 0 0 0 [some _, some _, none] [] _
  refine jr_aload rfl rfl ?_
  refine jr_getI rfl rfl ?_
  refine jr_iload rfl rfl ?_
  refine jr_iand rfl ?_
  refine jr_if_ne rfl (fun z => absurd (by rw [xi]; exact (jb_a8 _ (by unfold jbt; omega)).mpr (by unfold jbt; omega)) z) (fun _ => ?_)
  refine jr_ic rfl ?_
  refine jr_goto rfl ?_
  refine jr_ist2 rfl rfl ?_
  refine jr_aload rfl rfl ?_
  refine jr_dup_r rfl ?_
  refine jr_getI rfl rfl ?_
  refine jr_iload rfl rfl ?_
  refine jr_ior rfl ?_
  refine jr_putI rfl rfl ?_
  refine jr_aload rfl rfl ?_
  refine jr_iload rfl rfl ?_
  refine jr_cv1 (mc' := 0) (ms' := 0) rfl jm_Rdr_beginLine_n jm_Rdr_beginLine_f rfl rfl rfl rfl rfl rfl rfl (Nat.zero_le _) (Nat.zero_le _) ?_
  show jx_W (jm_Rdr_beginLine, _, _, _, _, _, _) _ 0 0 0 [some _, some _] [] _
  refine jr_iload rfl rfl ?_
  refine jr_if_ne rfl (fun _ => ?_) (fun z => absurd z (by decide))
  refine jr_aload rfl rfl ?_
  refine jr_getR rfl rfl rfl rfl (Or.inl rfl) ?_
  refine jr_cv0 (mc' := 0) (ms' := 0) rfl jm_Tape_take_n jm_Tape_take_f rfl rfl rfl rfl rfl rfl rfl (Nat.zero_le _) (Nat.zero_le _) ?_
  refine ev_take (B := B) (sz := sz) (T := T) (t := t + 1) (h := (ju_I h 6 0 (upd (jh_I h 6 0) 5 (jh_I h 6 0 5 ||| 8)))) xz.1 xz.2.1.1 hn1 (fun h1 g1 c1 => ?_)
  have x1 := jLS_once x g1 c1 hn1
  have xb1 : jh_I h1 6 0 5 = nI (jbt V + 8) := (jLS_bit g1).trans (by rw [xi]; exact jb_o8 _ (by unfold jbt; omega) (by unfold jbt; omega))
  refine jr_ic rfl ?_
  refine jr_zret rfl rfl rfl (Nat.zero_le _) (Nat.zero_le _) ?_
  refine jr_zret rfl rfl rfl (Nat.zero_le _) (Nat.zero_le _) ?_
  refine jr_if_eq rfl (fun z => absurd z (by decide)) (fun _ => ?_)
  refine jr_aload rfl rfl ?_
  refine jr_cv0 (mc' := 0) (ms' := 0) rfl jm_Rdr_readWeek_n jm_Rdr_readWeek_f rfl rfl rfl rfl rfl rfl rfl (Nat.zero_le _) (Nat.zero_le _) ?_
  refine ev_week (β := β) x1 xb1 hn hβ (fun r h2 o => ?_)
  rcases o with ⟨rfl, t2, V2, W2, D2, hs, y, gg⟩ | ⟨rfl, kd, pl, f, y1, y2, y3, gg⟩
  · refine jr_if_eq rfl (fun z => absurd z (by decide)) (fun _ => ?_)
    refine jr_ic rfl ?_
    refine jr_goto rfl ?_
    refine jr_zret rfl rfl rfl (Nat.zero_le _) (Nat.zero_le _) ?_
    exact k _ _ (Or.inl ⟨rfl, t2, V2, W2, D2, hs, y, 2003133803, fun d h0 hm Qm x F kq => eM_lnG_week x F hβ hK hn gg kq⟩)
  · refine jr_if_eq rfl (fun _ => ?_) (fun z => absurd (by decide) z)
    refine jr_ic rfl ?_
    refine jr_zret rfl rfl rfl (Nat.zero_le _) (Nat.zero_le _) ?_
    exact k _ _ (Or.inr (Or.inl ⟨rfl, kd, pl, f, y1, y2, y3, fun d h0 hm Qm x F kq => eM_lnB_week x F hβ hK hn y3 gg kq⟩))

set_option maxHeartbeats 800000 in
set_option maxRecDepth 100000 in
theorem ev_lnF_law {d : Nat} {h : jx_H} {Q : Option jx_V → jx_H → Prop} {h0 : jx_H} {B : Nat → Int32} {sz T β ρ t : Nat} {V : Nat → Nat → Nat} {W : Nat → Nat → List Nat} {D : Nat → Int32} (x : jLS h0 h B sz T ρ t V W D) (hβ : β < 2) (hK : jT_K B sz t = 120) (hn : V 12 5 = 1) (k : ∀ r h', jEL h0 B sz T β ρ t V W D r h' → Q r h')  : jx_Ev jm_Rdr_readLine (d + 86) 0 0 false 0 [jv_r 6 0] h Q := by
  show jx_W (jm_Rdr_readLine, d + 86, 0, 0, false, 0, _) Q 0 0 0 [some (jv_r 6 0)] [] _
  obtain ⟨xz, xD, xF, ⟨v1, v2, v3, -, -, -, -, v8, -, -, v11, v12, -, -, -, -, v17, -, -, -, -⟩, x5, x6⟩ := id x
  have w5 : V 12 5 ≤ 1 := (v17 5 (by decide)).1
  have hkl : jT_K B sz t < 256 := jT_k_lt
  have hk : jh_I h 9 0 8 = nI (jT_K B sz t) := xz.2.1.2.1
  have hρ : jh_M h 6 0 4 = ρ + 1 := xD.2.2.2.2.2.2.2.2.2.2.2.2.2.2
  have xi : jh_I h 6 0 5 = nI (jbt V) := xD.2.2.2.2.2.2.2.2.2.2.2.1
  have c0 : jh_I h 7 ρ 0 = nI (V 0 0) := xD.1.1
  have c3 : jh_I h 7 ρ 3 = nI (V 0 1) := xD.2.1.1
  have c5 : jh_I h 7 ρ 5 = nI (V 0 2) := xD.2.2.1.1
  refine jr_aload rfl rfl ?_
  refine jr_getR rfl rfl rfl rfl (Or.inl rfl) ?_
  refine jr_getI rfl rfl ?_
  rw [show jh_I h 9 0 8 = (120 : Int32) from hk.trans (congrArg nI hK)]
  refine jr_lsw rfl ?_
  refine ⟨fun z => absurd z (by decide), fun _ => ?_⟩
  refine ⟨fun z => absurd z (by decide), fun _ => ?_⟩
  refine ⟨fun z => absurd z (by decide), fun _ => ?_⟩
  refine ⟨fun z => absurd z (by decide), fun _ => ?_⟩
  refine ⟨fun _ => ?_, fun z => absurd (by decide) z⟩
  refine jr_aload rfl rfl ?_
  refine jr_ic rfl ?_
  refine jr_cv1 (mc' := 0) (ms' := 0) rfl jm_Rdr_beginOnce_n jm_Rdr_beginOnce_f rfl rfl rfl rfl rfl rfl rfl (Nat.zero_le _) (Nat.zero_le _) ?_
  show jx_W (jm_Rdr_beginOnce, _, _, _, _, _, _) _ 0 0 0 [some _, some _, none] [] _
  refine jr_aload rfl rfl ?_
  refine jr_getI rfl rfl ?_
  refine jr_iload rfl rfl ?_
  refine jr_iand rfl ?_
  refine jr_if_ne rfl (fun _ => ?_) (fun z => absurd z (by rw [xi]; intro z; have z2 := (jb_a2 _ (by unfold jbt; omega)).mp z; unfold jbt at z2; omega))
  refine jr_ic rfl ?_
  refine jr_ist2 rfl rfl ?_
  refine jr_aload rfl rfl ?_
  refine jr_dup_r rfl ?_
  refine jr_getI rfl rfl ?_
  refine jr_iload rfl rfl ?_
  refine jr_ior rfl ?_
  refine jr_putI rfl rfl ?_
  refine jr_aload rfl rfl ?_
  refine jr_iload rfl rfl ?_
  refine jr_cv1 (mc' := 0) (ms' := 0) rfl jm_Rdr_beginLine_n jm_Rdr_beginLine_f rfl rfl rfl rfl rfl rfl rfl (Nat.zero_le _) (Nat.zero_le _) ?_
  show jx_W (jm_Rdr_beginLine, _, _, _, _, _, _) _ 0 0 0 [some _, some _] [] _
  refine jr_iload rfl rfl ?_
  refine jr_if_ne rfl (fun z => absurd (by decide) z) (fun _ => ?_)
  refine jr_aload rfl rfl ?_
  refine jr_ic rfl ?_
  refine jr_cv1 (mc' := 0) (ms' := 0) rfl jm_Rdr_refuse_n jm_Rdr_refuse_f rfl rfl rfl rfl rfl rfl rfl (Nat.zero_le _) (Nat.zero_le _) ?_
  refine ev_refuse (B := B) (sz := sz) (t := t) (h := (ju_I h 6 0 (upd (jh_I h 6 0) 5 (jh_I h 6 0 5 ||| 2)))) xz.2.1 (fun h1 g1 => ?_)
  refine jr_zret rfl rfl rfl (Nat.zero_le _) (Nat.zero_le _) ?_
  refine jr_zret rfl rfl rfl (Nat.zero_le _) (Nat.zero_le _) ?_
  refine jr_if_eq rfl (fun _ => ?_) (fun z => absurd (by decide) z)
  refine jr_ic rfl ?_
  refine jr_zret rfl rfl rfl (Nat.zero_le _) (Nat.zero_le _) ?_
  exact k _ _ (Or.inr (Or.inl ⟨rfl, _, _, jCF_f (jCF_6 xF) (jCf_ft g1), g1.2.2.2.1, g1.2.2.2.2, ⟨by first | exact jX_kd_n _ | decide, jT_p_le⟩, fun d h0 hm Qm x F kq => eM_lnF_law x F hβ hK hn kq⟩))

set_option maxHeartbeats 800000 in
set_option maxRecDepth 100000 in
theorem ev_lnG_law {d : Nat} {h : jx_H} {Q : Option jx_V → jx_H → Prop} {h0 : jx_H} {B : Nat → Int32} {sz T β ρ t : Nat} {V : Nat → Nat → Nat} {W : Nat → Nat → List Nat} {D : Nat → Int32} (x : jLS h0 h B sz T ρ t V W D) (hβ : β < 2) (hK : jT_K B sz t = 120) (hn : V 12 5 = 0) (k : ∀ r h', jEL h0 B sz T β ρ t V W D r h' → Q r h')  : jx_Ev jm_Rdr_readLine (d + 86) 0 0 false 0 [jv_r 6 0] h Q := by
  show jx_W (jm_Rdr_readLine, d + 86, 0, 0, false, 0, _) Q 0 0 0 [some (jv_r 6 0)] [] _
  obtain ⟨xz, xD, xF, ⟨v1, v2, v3, -, -, -, -, v8, -, -, v11, v12, -, -, -, -, v17, -, -, -, -⟩, x5, x6⟩ := id x
  have w5 : V 12 5 ≤ 1 := (v17 5 (by decide)).1
  have hkl : jT_K B sz t < 256 := jT_k_lt
  have hk : jh_I h 9 0 8 = nI (jT_K B sz t) := xz.2.1.2.1
  have hρ : jh_M h 6 0 4 = ρ + 1 := xD.2.2.2.2.2.2.2.2.2.2.2.2.2.2
  have xi : jh_I h 6 0 5 = nI (jbt V) := xD.2.2.2.2.2.2.2.2.2.2.2.1
  have c0 : jh_I h 7 ρ 0 = nI (V 0 0) := xD.1.1
  have c3 : jh_I h 7 ρ 3 = nI (V 0 1) := xD.2.1.1
  have c5 : jh_I h 7 ρ 5 = nI (V 0 2) := xD.2.2.1.1
  have hn1 := jT_next xz.1 xz.2.2 (show jT_K B sz t ≠ 0 by omega)
  refine jr_aload rfl rfl ?_
  refine jr_getR rfl rfl rfl rfl (Or.inl rfl) ?_
  refine jr_getI rfl rfl ?_
  rw [show jh_I h 9 0 8 = (120 : Int32) from hk.trans (congrArg nI hK)]
  refine jr_lsw rfl ?_
  refine ⟨fun z => absurd z (by decide), fun _ => ?_⟩
  refine ⟨fun z => absurd z (by decide), fun _ => ?_⟩
  refine ⟨fun z => absurd z (by decide), fun _ => ?_⟩
  refine ⟨fun z => absurd z (by decide), fun _ => ?_⟩
  refine ⟨fun _ => ?_, fun z => absurd (by decide) z⟩
  refine jr_aload rfl rfl ?_
  refine jr_ic rfl ?_
  refine jr_cv1 (mc' := 0) (ms' := 0) rfl jm_Rdr_beginOnce_n jm_Rdr_beginOnce_f rfl rfl rfl rfl rfl rfl rfl (Nat.zero_le _) (Nat.zero_le _) ?_
  show jx_W (jm_Rdr_beginOnce, _, _, _, _, _, _) _ 0 0 0 [some _, some _, none] [] _
  refine jr_aload rfl rfl ?_
  refine jr_getI rfl rfl ?_
  refine jr_iload rfl rfl ?_
  refine jr_iand rfl ?_
  refine jr_if_ne rfl (fun z => absurd (by rw [xi]; exact (jb_a2 _ (by unfold jbt; omega)).mpr (by unfold jbt; omega)) z) (fun _ => ?_)
  refine jr_ic rfl ?_
  refine jr_goto rfl ?_
  refine jr_ist2 rfl rfl ?_
  refine jr_aload rfl rfl ?_
  refine jr_dup_r rfl ?_
  refine jr_getI rfl rfl ?_
  refine jr_iload rfl rfl ?_
  refine jr_ior rfl ?_
  refine jr_putI rfl rfl ?_
  refine jr_aload rfl rfl ?_
  refine jr_iload rfl rfl ?_
  refine jr_cv1 (mc' := 0) (ms' := 0) rfl jm_Rdr_beginLine_n jm_Rdr_beginLine_f rfl rfl rfl rfl rfl rfl rfl (Nat.zero_le _) (Nat.zero_le _) ?_
  show jx_W (jm_Rdr_beginLine, _, _, _, _, _, _) _ 0 0 0 [some _, some _] [] _
  refine jr_iload rfl rfl ?_
  refine jr_if_ne rfl (fun _ => ?_) (fun z => absurd z (by decide))
  refine jr_aload rfl rfl ?_
  refine jr_getR rfl rfl rfl rfl (Or.inl rfl) ?_
  refine jr_cv0 (mc' := 0) (ms' := 0) rfl jm_Tape_take_n jm_Tape_take_f rfl rfl rfl rfl rfl rfl rfl (Nat.zero_le _) (Nat.zero_le _) ?_
  refine ev_take (B := B) (sz := sz) (T := T) (t := t + 1) (h := (ju_I h 6 0 (upd (jh_I h 6 0) 5 (jh_I h 6 0 5 ||| 2)))) xz.1 xz.2.1.1 hn1 (fun h1 g1 c1 => ?_)
  have x1 := jLS_once x g1 c1 hn1
  have xb1 : jh_I h1 6 0 5 = nI (jbt V + 2) := (jLS_bit g1).trans (by rw [xi]; exact jb_o2 _ (by unfold jbt; omega) (by unfold jbt; omega))
  refine jr_ic rfl ?_
  refine jr_zret rfl rfl rfl (Nat.zero_le _) (Nat.zero_le _) ?_
  refine jr_zret rfl rfl rfl (Nat.zero_le _) (Nat.zero_le _) ?_
  refine jr_if_eq rfl (fun z => absurd z (by decide)) (fun _ => ?_)
  refine jr_aload rfl rfl ?_
  refine jr_ic rfl ?_
  refine jr_cv1 (mc' := 0) (ms' := 0) rfl jm_Rdr_readFormula_n jm_Rdr_readFormula_f rfl rfl rfl rfl rfl rfl rfl (Nat.zero_le _) (Nat.zero_le _) ?_
  refine ev_law (β := β) x1 xb1 hn hβ (fun r h2 o => ?_)
  rcases o with ⟨rfl, t2, V2, W2, D2, hs, y, gg⟩ | ⟨rfl, kd, pl, f, y1, y2, y3, gg⟩ | ⟨rfl, t2, z, rk, f, gg⟩
  · refine jr_if_eq rfl (fun z => absurd z (by decide)) (fun _ => ?_)
    refine jr_ic rfl ?_
    refine jr_goto rfl ?_
    refine jr_zret rfl rfl rfl (Nat.zero_le _) (Nat.zero_le _) ?_
    exact k _ _ (Or.inl ⟨rfl, t2, V2, W2, D2, hs, y, 7102839, fun d h0 hm Qm x F kq => eM_lnG_law x F hβ hK hn gg kq⟩)
  · refine jr_if_eq rfl (fun _ => ?_) (fun z => absurd (by decide) z)
    refine jr_ic rfl ?_
    refine jr_zret rfl rfl rfl (Nat.zero_le _) (Nat.zero_le _) ?_
    exact k _ _ (Or.inr (Or.inl ⟨rfl, kd, pl, f, y1, y2, y3, fun d h0 hm Qm x F kq => eM_lnB_law x F hβ hK hn y3 gg kq⟩))
  · refine jr_if_eq rfl (fun z => absurd z (by decide)) (fun _ => ?_)
    refine jr_ic rfl ?_
    refine jr_goto rfl ?_
    refine jr_zret rfl rfl rfl (Nat.zero_le _) (Nat.zero_le _) ?_
    exact k _ _ (Or.inr (Or.inr ⟨rfl, t2, z, rk, f, fun d h0 hm Qm x F kq => eM_lnB_law x F hβ hK hn (kd := 2) (pl := jT_p B sz t2) ⟨by decide, jT_p_le⟩ gg kq⟩))

set_option maxHeartbeats 800000 in
set_option maxRecDepth 100000 in
theorem ev_lnX {d : Nat} {h : jx_H} {Q : Option jx_V → jx_H → Prop} {h0 : jx_H} {B : Nat → Int32} {sz T β ρ t : Nat} {V : Nat → Nat → Nat} {W : Nat → Nat → List Nat} {D : Nat → Int32} (x : jLS h0 h B sz T ρ t V W D) (hβ : β < 2) (hK : jT_K B sz t ≠ 100 ∧ jT_K B sz t ≠ 109 ∧ jT_K B sz t ≠ 112 ∧ jT_K B sz t ≠ 118 ∧ jT_K B sz t ≠ 120 ∧ jT_K B sz t ≠ 121 ∧ jT_K B sz t ≠ 125) (k : ∀ r h', jEL h0 B sz T β ρ t V W D r h' → Q r h')  : jx_Ev jm_Rdr_readLine (d + 86) 0 0 false 0 [jv_r 6 0] h Q := by
  show jx_W (jm_Rdr_readLine, d + 86, 0, 0, false, 0, _) Q 0 0 0 [some (jv_r 6 0)] [] _
  obtain ⟨xz, xD, xF, ⟨v1, v2, v3, -, -, -, -, v8, -, -, v11, v12, -, -, -, -, v17, -, -, -, -⟩, x5, x6⟩ := id x
  have w5 : V 12 5 ≤ 1 := (v17 5 (by decide)).1
  have hkl : jT_K B sz t < 256 := jT_k_lt
  have hk : jh_I h 9 0 8 = nI (jT_K B sz t) := xz.2.1.2.1
  have hρ : jh_M h 6 0 4 = ρ + 1 := xD.2.2.2.2.2.2.2.2.2.2.2.2.2.2
  have xi : jh_I h 6 0 5 = nI (jbt V) := xD.2.2.2.2.2.2.2.2.2.2.2.1
  have c0 : jh_I h 7 ρ 0 = nI (V 0 0) := xD.1.1
  have e3 : jh_I h 7 ρ 3 = nI (V 0 1) := xD.2.1.1
  have c5 : jh_I h 7 ρ 5 = nI (V 0 2) := xD.2.2.1.1
  refine jr_aload rfl rfl ?_
  refine jr_getR rfl rfl rfl rfl (Or.inl rfl) ?_
  refine jr_getI rfl rfl ?_
  refine jr_lsw rfl ?_
  refine ⟨fun c3 => ?_, fun n3_100 => ?_⟩
  · exact absurd ((congrArg Int32.toInt hk).symm.trans c3) (by rw [nI_toInt (by omega)]; omega)
  · skip
    refine ⟨fun c3 => ?_, fun n3_109 => ?_⟩
    · exact absurd ((congrArg Int32.toInt hk).symm.trans c3) (by rw [nI_toInt (by omega)]; omega)
    · skip
      refine ⟨fun c3 => ?_, fun n3_112 => ?_⟩
      · exact absurd ((congrArg Int32.toInt hk).symm.trans c3) (by rw [nI_toInt (by omega)]; omega)
      · skip
        refine ⟨fun c3 => ?_, fun n3_118 => ?_⟩
        · exact absurd ((congrArg Int32.toInt hk).symm.trans c3) (by rw [nI_toInt (by omega)]; omega)
        · skip
          refine ⟨fun c3 => ?_, fun n3_120 => ?_⟩
          · exact absurd ((congrArg Int32.toInt hk).symm.trans c3) (by rw [nI_toInt (by omega)]; omega)
          · skip
            refine ⟨fun c3 => ?_, fun n3_121 => ?_⟩
            · exact absurd ((congrArg Int32.toInt hk).symm.trans c3) (by rw [nI_toInt (by omega)]; omega)
            · skip
              refine ⟨fun c3 => ?_, fun n3_125 => ?_⟩
              · exact absurd ((congrArg Int32.toInt hk).symm.trans c3) (by rw [nI_toInt (by omega)]; omega)
              · skip
                refine jr_aload rfl rfl ?_
                refine jr_ic rfl ?_
                refine jr_cv1 (mc' := 0) (ms' := 0) rfl jm_Rdr_refuse_n jm_Rdr_refuse_f rfl rfl rfl rfl rfl rfl rfl (Nat.zero_le _) (Nat.zero_le _) ?_
                refine ev_refuse (B := B) (sz := sz) (t := t) xz.2.1 (fun h1 g1 => ?_)
                refine jr_zret rfl rfl rfl (Nat.zero_le _) (Nat.zero_le _) ?_
                exact k _ _ (Or.inr (Or.inl ⟨rfl, _, _, jCF_f xF (jCf_ft g1), g1.2.2.2.1, g1.2.2.2.2, ⟨by first | exact jX_kd_n _ | decide, jT_p_le⟩, fun d h0 hm Qm x F kq => by
                  rcases Nat.lt_or_ge (jT_K B sz t) 100 with e | e
                  · exact eM_lnX_x1 x F hβ e kq
                  · exact eM_lnX_x2 x F hβ e hK kq⟩))

theorem ev_line {d : Nat} {h : jx_H} {Q : Option jx_V → jx_H → Prop} {h0 : jx_H} {B : Nat → Int32} {sz T β ρ t : Nat} {V : Nat → Nat → Nat} {W : Nat → Nat → List Nat} {D : Nat → Int32} (x : jLS h0 h B sz T ρ t V W D) (hβ : β < 2) (k : ∀ r h', jEL h0 B sz T β ρ t V W D r h' → Q r h')  : jx_Ev jm_Rdr_readLine (d + 86) 0 0 false 0 [jv_r 6 0] h Q := by
  obtain ⟨xz, xD, xF, ⟨v1, v2, v3, -, -, -, -, v8, -, -, v11, v12, -, -, -, -, v17, -, -, -, -⟩, x5, x6⟩ := id x
  have w5 : V 12 5 ≤ 1 := (v17 5 (by decide)).1
  by_cases e100 : jT_K B sz t = 100
  · by_cases en : V 0 0 = 6
    · exact ev_lnF_month x hβ e100 en k
    · exact ev_lnG_month x hβ e100 (by omega) k
  by_cases e109 : jT_K B sz t = 109
  · by_cases en : V 0 1 = 5
    · exact ev_lnF_person x hβ e109 en k
    · exact ev_lnG_person x hβ e109 (by omega) k
  by_cases e112 : jT_K B sz t = 112
  · by_cases en : V 0 2 = 12
    · exact ev_lnF_due x hβ e112 en k
    · exact ev_lnG_due x hβ e112 (by omega) k
  by_cases e118 : jT_K B sz t = 118
  · by_cases en : V 0 5 = 1
    · exact ev_lnF_sun x hβ e118 en k
    · exact ev_lnG_sun x hβ e118 (by omega) k
  by_cases e121 : jT_K B sz t = 121
  · by_cases en : V 0 6 = 1
    · exact ev_lnF_count x hβ e121 en k
    · exact ev_lnG_count x hβ e121 (by omega) k
  by_cases e125 : jT_K B sz t = 125
  · by_cases en : V 0 7 = 1
    · exact ev_lnF_week x hβ e125 en k
    · exact ev_lnG_week x hβ e125 (by omega) k
  by_cases e120 : jT_K B sz t = 120
  · by_cases en : V 12 5 = 1
    · exact ev_lnF_law x hβ e120 en k
    · exact ev_lnG_law x hβ e120 (by omega) k
  exact ev_lnX x hβ ⟨e100, e109, e112, e118, e120, e121, e125⟩ k
