theorem jn_le0 {x : Int32} (h : x = 0) : x ≤ 0 := by rw [h]; decide
def jVd (V : Nat → Nat → Nat) (a b p y m l : Nat) : Nat → Nat → Nat := jv2 (jv2 (jv2 (jv2 (jv2 (jv2 (jv2 V 0 2 (V 0 2 + 1)) 4 (V 0 2) a) 5 (V 0 2) b) 6 (V 0 2) p) 7 (V 0 2) y) 8 (V 0 2) m) 9 (V 0 2) l
theorem jVd_s (V : Nat → Nat → Nat) (a b p y m l : Nat) : jVd V a b p y m l 4 (V 0 2) = a ∧ jVd V a b p y m l 5 (V 0 2) = b ∧ jVd V a b p y m l 6 (V 0 2) = p ∧ jVd V a b p y m l 7 (V 0 2) = y ∧ jVd V a b p y m l 8 (V 0 2) = m ∧ jVd V a b p y m l 9 (V 0 2) = l := by
  unfold jVd
  refine ⟨?_, ?_, ?_, ?_, ?_, ?_⟩
  · rw [jv2_n (fun z => by omega), jv2_n (fun z => by omega), jv2_n (fun z => by omega), jv2_n (fun z => by omega), jv2_n (fun z => by omega), jv2_s]
  · rw [jv2_n (fun z => by omega), jv2_n (fun z => by omega), jv2_n (fun z => by omega), jv2_n (fun z => by omega), jv2_s]
  · rw [jv2_n (fun z => by omega), jv2_n (fun z => by omega), jv2_n (fun z => by omega), jv2_s]
  · rw [jv2_n (fun z => by omega), jv2_n (fun z => by omega), jv2_s]
  · rw [jv2_n (fun z => by omega), jv2_s]
  · rw [jv2_s]
theorem jVd_n {V : Nat → Nat → Nat} {a b p y m l : Nat} {x q : Nat} (h0 : x ≠ 0) (h : q ≠ V 0 2) : jVd V a b p y m l x q = V x q := by
  unfold jVd
  rw [jv2_n (fun z => h z.2), jv2_n (fun z => h z.2), jv2_n (fun z => h z.2), jv2_n (fun z => h z.2), jv2_n (fun z => h z.2), jv2_n (fun z => h z.2), jv2_n (fun z => h0 z.1)]
theorem jML_due {h h' : jx_H} {B : Nat → Int32} {sz β t t' a b p y m l : Nat} {w : List Nat} {V : Nat → Nat → Nat} {W : Nat → Nat → List Nat} {D : Nat → Int32} (x : jML h B sz β t V W D) (xt : jX_t h' B sz) (xm : jT_mc h' B sz t') (xg : jh_I h' 11 0 4 = 0) (xb : jh_I h' 11 0 44 = nI β) (xc : jh_I h' 11 0 45 = jh_I h 11 0 45) (e68 : jh_I h' 68 0 = upd (jh_I h 68 0) β (nI (V 0 2 + 1)))
    (e73 : jh_I h' 73 0 = upd (jh_I h 73 0) (12 * β + V 0 2) (nI a)) (e74 : jh_I h' 74 0 = upd (jh_I h 74 0) (12 * β + V 0 2) (nI b)) (e75 : jh_I h' 75 0 = upd (jh_I h 75 0) (12 * β + V 0 2) (nI p)) (e76 : jh_I h' 76 0 = upd (jh_I h 76 0) (12 * β + V 0 2) (nI y)) (e77 : jh_I h' 77 0 = upd (jh_I h 77 0) (12 * β + V 0 2) (nI m)) (e84 : jh_I h' 84 0 = upd (jh_I h 84 0) (12 * β + V 0 2) (nI l)) (e92 : jh_L h' 92 0 = vp_updL (jh_L h 92 0) (12 * β + V 0 2) (jT_key w))
    (eI : ∀ a b, a ≠ 11 → a ≠ 68 → a ≠ 73 → a ≠ 74 → a ≠ 75 → a ≠ 76 → a ≠ 77 → a ≠ 84 → jh_I h' a b = jh_I h a b) (eL : ∀ a b, a ≠ 11 → a ≠ 92 → jh_L h' a b = jh_L h a b) :
    jML h' B sz β t' (jVd V a b p y m l) (jw2 W 2 (V 0 2) w) D := by
  obtain ⟨⟨-, -, -, -, y69, y45, -, -⟩, ⟨⟨a1, a2⟩, ⟨b1, b2⟩, ⟨c1, c2⟩, r, ⟨s1, s2⟩, s3, s4, s5, s6, s7⟩, d⟩ := x
  have f : ∀ a, a ≠ 11 → a ≠ 68 → a ≠ 73 → a ≠ 74 → a ≠ 75 → a ≠ 76 → a ≠ 77 → a ≠ 84 → jh_I h' a 0 = jh_I h a 0 := fun a => eI a 0
  refine ⟨⟨xt, xm, xg, xb, by rw [f 69 (by decide) (by decide) (by decide) (by decide) (by decide) (by decide) (by decide) (by decide)]; exact y69, xc.trans y45, rfl, rfl⟩, ⟨⟨by rw [f 66 (by decide) (by decide) (by decide) (by decide) (by decide) (by decide) (by decide) (by decide)]; exact a1, fun j hj => by rw [f 70 (by decide) (by decide) (by decide) (by decide) (by decide) (by decide) (by decide) (by decide), f 71 (by decide) (by decide) (by decide) (by decide) (by decide) (by decide) (by decide) (by decide), eL 90 0 (by decide) (by decide)]; exact a2 j hj⟩, ⟨by rw [f 67 (by decide) (by decide) (by decide) (by decide) (by decide) (by decide) (by decide) (by decide)]; exact b1, fun p hp => by rw [f 72 (by decide) (by decide) (by decide) (by decide) (by decide) (by decide) (by decide) (by decide), eL 91 0 (by decide) (by decide)]; exact b2 p hp⟩,
    ⟨by rw [e68, jg_us]; rfl, fun q hp => ?_⟩, fun w hw => jMr_s (r w hw) (f 82 (by decide) (by decide) (by decide) (by decide) (by decide) (by decide) (by decide) (by decide)) (f 83 (by decide) (by decide) (by decide) (by decide) (by decide) (by decide) (by decide) (by decide)) (f 89 (by decide) (by decide) (by decide) (by decide) (by decide) (by decide) (by decide) (by decide)) (f 93 (by decide) (by decide) (by decide) (by decide) (by decide) (by decide) (by decide) (by decide)),
    ⟨by rw [f 85 (by decide) (by decide) (by decide) (by decide) (by decide) (by decide) (by decide) (by decide)]; exact s1, fun q => by rw [f 78 (by decide) (by decide) (by decide) (by decide) (by decide) (by decide) (by decide) (by decide), f 79 (by decide) (by decide) (by decide) (by decide) (by decide) (by decide) (by decide) (by decide)]; exact s2 q⟩, by rw [f 86 (by decide) (by decide) (by decide) (by decide) (by decide) (by decide) (by decide) (by decide)]; exact s3, by rw [f 80 (by decide) (by decide) (by decide) (by decide) (by decide) (by decide) (by decide) (by decide)]; exact s4, by rw [f 87 (by decide) (by decide) (by decide) (by decide) (by decide) (by decide) (by decide) (by decide)]; exact s5, by rw [f 81 (by decide) (by decide) (by decide) (by decide) (by decide) (by decide) (by decide) (by decide)]; exact s6, by rw [f 88 (by decide) (by decide) (by decide) (by decide) (by decide) (by decide) (by decide) (by decide)]; exact s7⟩, by rw [f 93 (by decide) (by decide) (by decide) (by decide) (by decide) (by decide) (by decide) (by decide), f 94 (by decide) (by decide) (by decide) (by decide) (by decide) (by decide) (by decide) (by decide)]; exact d⟩
  have hp1 : q < V 0 2 + 1 := hp
  unfold jMd
  rw [e73, e74, e75, e76, e77, e84, e92]
  by_cases e : q = V 0 2
  · subst e
    obtain ⟨g1, g2, g3, g4, g5, g6⟩ := jVd_s V a b p y m l
    rw [jg_us, jg_us, jg_us, jg_us, jg_us, jg_us, jg_Lus, jw2_s, g1, g2, g3, g4, g5, g6]
    exact ⟨⟨rfl, rfl, rfl, rfl, rfl, rfl⟩, rfl⟩
  · rw [jg_un (by omega), jg_un (by omega), jg_un (by omega), jg_un (by omega), jg_un (by omega), jg_un (by omega), jg_Lun (by omega), jw2_n (fun y => by omega), jVd_n (by decide) e, jVd_n (by decide) e, jVd_n (by decide) e, jVd_n (by decide) e, jVd_n (by decide) e, jVd_n (by decide) e]
    exact c2 q (by omega)
set_option maxHeartbeats 800000 in
set_option maxRecDepth 100000 in
theorem eM_due_b0 {d : Nat} {h : jx_H} {Q : Option jx_V → jx_H → Prop} {h0 : jx_H} {B : Nat → Int32} {sz β t : Nat} {V : Nat → Nat → Nat} {W : Nat → Nat → List Nat} {D : Nat → Int32} (x : jML h B sz β t V W D) (F : jMF β h0 h) (hβ : β < 2) (hn : V 0 2 < 12) (h5 : V 0 1 ≤ 5) (h6 : V 0 0 ≤ 6) (hW : jnW (W 2) (V 0 2)) (hWp : jnW (W 1) (V 0 1)) (hWm : jnW (W 0) (V 0 0)) (k0 : ¬ jT_K B sz t = 3) (k : ∀ h', jMF β h0 h' → jh_I h' 11 0 4 = jX_kd (jT_K B sz t) → jPl h' (jT_p B sz t) → Q none h')  : jx_Ev jm_MD_readDue (d + 8) 0 0 false 1 [jv_r 11 0] h Q := by
  show jx_W (jm_MD_readDue, d + 8, 0, 0, false, 1, _) Q 0 0 0 [some (jv_r 11 0), none] [] _
  obtain ⟨⟨t0, m0, f0, b0, -, -, -, -⟩, ⟨⟨a1, a2⟩, ⟨p1, p2⟩, ⟨c1, c2⟩, -⟩, -⟩ := id x
  have xb := b0
  have hr : ∀ j, j < V 0 2 → jh_L h 92 0 (12 * β + j) = jT_key (W 2 j) := fun j hj => (c2 j hj).2
  refine jr_ic rfl ?_
  refine jr_aload rfl rfl ?_
  refine jr_getI rfl rfl ?_
  refine jr_imul rfl ?_
  refine jr_aload rfl rfl ?_
  refine jr_getR rfl rfl rfl rfl (Or.inl rfl) ?_
  refine jr_aload rfl rfl ?_
  refine jr_getI rfl rfl ?_
  refine jr_iald (len := 2) rfl rfl b0 (by omega) ?_
  refine jr_iadd rfl ?_
  rw [xb, c1, show (12 : Int32) * nI β + nI (V 0 2) = nI (12 * β + V 0 2) from jn_add (jn_mul rfl rfl) rfl]
  refine jr_ist1 rfl rfl ?_
  refine jr_aload rfl rfl ?_
  refine jr_getR rfl rfl rfl rfl (Or.inl rfl) ?_
  refine jr_iload rfl rfl ?_
  refine jr_aload rfl rfl ?_
  refine jr_aload rfl rfl ?_
  refine jr_aload rfl rfl ?_
  refine jr_getR rfl rfl rfl rfl (Or.inl rfl) ?_
  refine jr_ic rfl ?_
  refine jr_aload rfl rfl ?_
  refine jr_getI rfl rfl ?_
  refine jr_imul rfl ?_
  refine jr_aload rfl rfl ?_
  refine jr_getR rfl rfl rfl rfl (Or.inl rfl) ?_
  refine jr_aload rfl rfl ?_
  refine jr_getI rfl rfl ?_
  refine jr_iald (len := 2) rfl rfl b0 (by omega) ?_
  rw [xb, c1, show (12 : Int32) * nI β = nI (12 * β) from jn_mul rfl rfl]
  refine jr_cv3 (mc' := 0) (ms' := 0) rfl jm_MD_here_n jm_MD_here_f rfl rfl rfl rfl rfl rfl rfl (Nat.zero_le _) (Nat.zero_le _) ?_
  refine eM_here_d m0 hβ hW hr (by omega) ?_
  rw [if_neg k0]
  refine jr_cv1 (mc' := 0) (ms' := 0) rfl jm_MD_fresh_n jm_MD_fresh_f rfl rfl rfl rfl rfl rfl rfl (Nat.zero_le _) (Nat.zero_le _) ?_
  refine eM_fresh_n (B := B) (sz := sz) (t := t) t0 m0 f0 k0 (fun h1 v g1 => ?_)
  have e1 : ¬ jh_I h1 11 0 4 = 0 := by rw [g1.2.2.2.1]; exact jX_kd_n _
  have m1 := jT_mc_ft g1 m0
  have b1 : jh_I h1 11 0 44 = nI β := (g1.2.2.1 44 (by decide) (by decide)).trans b0
  refine jr_last (len := 24) rfl rfl rfl (by omega) ?_
  refine jr_aload rfl rfl ?_
  refine jr_aload rfl rfl ?_
  refine jr_lc rfl ?_
  refine jr_cv1 (mc' := 0) (ms' := 0) rfl jm_MD_isWord_n jm_MD_isWord_f rfl rfl rfl rfl rfl rfl rfl (Nat.zero_le _) (Nat.zero_le _) ?_
  refine eM_isWord (B := B) (sz := sz) (t := t) m1 (i := 13) (by decide) jT_W13 ?_
  refine jr_cv1 (mc' := 0) (ms' := 0) rfl jm_MD_must_n jm_MD_must_f rfl rfl rfl rfl rfl rfl rfl (Nat.zero_le _) (Nat.zero_le _) ?_
  refine eM_must_b e1 ?_
  refine jr_aload rfl rfl ?_
  refine jr_getR rfl rfl rfl rfl (Or.inl rfl) ?_
  refine jr_iload rfl rfl ?_
  refine jr_aload rfl rfl ?_
  refine jr_aload rfl rfl ?_
  refine jr_cv0 (mc' := 0) (ms' := 0) rfl jm_MD_personHere_n jm_MD_personHere_f rfl rfl rfl rfl rfl rfl rfl (Nat.zero_le _) (Nat.zero_le _) ?_
  show jx_W (jm_MD_personHere, _, _, _, _, _, _) _ 0 0 0 [some _] [] _
  refine jr_aload rfl rfl ?_
  refine jr_aload rfl rfl ?_
  refine jr_getR rfl rfl rfl rfl (Or.inl rfl) ?_
  refine jr_ic rfl ?_
  refine jr_aload rfl rfl ?_
  refine jr_getI rfl rfl ?_
  refine jr_imul rfl ?_
  refine jr_aload rfl rfl ?_
  refine jr_getR rfl rfl rfl rfl (Or.inl rfl) ?_
  refine jr_aload rfl rfl ?_
  refine jr_getI rfl rfl ?_
  refine jr_iald (len := 2) rfl rfl (by first | exact b1) (by omega) ?_
  rw [show jh_I (ju_L (h1) 92 0 (vp_updL (jh_L (h1) 92 0) ((12 * β + V 0 2)) (v))) 11 0 44 = nI β from b1, show jh_I (ju_L (h1) 92 0 (vp_updL (jh_L (h1) 92 0) ((12 * β + V 0 2)) (v))) 67 0 β = nI (V 0 1) from (congrFun (g1.1 67 0 (by decide)) β).trans p1, show (5 : Int32) * nI β = nI (5 * β) from jn_mul rfl rfl]
  refine jr_cv3 (mc' := 0) (ms' := 0) rfl jm_MD_here_n jm_MD_here_f rfl rfl rfl rfl rfl rfl rfl (Nat.zero_le _) (Nat.zero_le _) ?_
  refine eM_here_p (B := B) (sz := sz) (t := t) m1 hβ hWp (fun j hj => (congrFun (congrFun (congrFun (congrArg (·.1) g1.2.1) 91) 0) _).trans ((p2 j hj).2)) (by omega) ?_
  refine jr_iret rfl rfl (Nat.zero_le _) (Nat.zero_le _) ?_
  refine jr_cv1 (mc' := 0) (ms' := 0) rfl jm_MD_told_n jm_MD_told_f rfl rfl rfl rfl rfl rfl rfl (Nat.zero_le _) (Nat.zero_le _) ?_
  refine eM_told_b e1 ?_
  refine jr_iast (len := 24) rfl rfl rfl (by omega) ?_
  refine jr_aload rfl rfl ?_
  refine jr_cv0 (mc' := 0) (ms' := 0) rfl jm_MD_isGood_n jm_MD_isGood_f rfl rfl rfl rfl rfl rfl rfl (Nat.zero_le _) (Nat.zero_le _) ?_
  show jx_W (jm_MD_isGood, _, _, _, _, _, _) _ 0 0 0 [some _] [] _
  refine jr_aload rfl rfl ?_
  refine jr_getI rfl rfl ?_
  refine jr_if_ne rfl (fun _ => ?_) (fun z => absurd z e1)
  refine jr_ic rfl ?_
  refine jr_zret rfl rfl rfl (Nat.zero_le _) (Nat.zero_le _) ?_
  refine jr_if_eq rfl (fun _ => ?_) (fun z => absurd (by decide) z)
  refine jr_aload rfl rfl ?_
  refine jr_aload rfl rfl ?_
  refine jr_lc rfl ?_
  refine jr_cv1 (mc' := 0) (ms' := 0) rfl jm_MD_isWord_n jm_MD_isWord_f rfl rfl rfl rfl rfl rfl rfl (Nat.zero_le _) (Nat.zero_le _) ?_
  refine eM_isWord (B := B) (sz := sz) (t := t) m1 (i := 8) (by decide) jT_W8 ?_
  refine jr_cv1 (mc' := 0) (ms' := 0) rfl jm_MD_must_n jm_MD_must_f rfl rfl rfl rfl rfl rfl rfl (Nat.zero_le _) (Nat.zero_le _) ?_
  refine eM_must_b e1 ?_
  refine jr_aload rfl rfl ?_
  refine jr_getR rfl rfl rfl rfl (Or.inl rfl) ?_
  refine jr_iload rfl rfl ?_
  refine jr_aload rfl rfl ?_
  refine jr_aload rfl rfl ?_
  refine jr_cv0 (mc' := 0) (ms' := 0) rfl jm_MD_personHere_n jm_MD_personHere_f rfl rfl rfl rfl rfl rfl rfl (Nat.zero_le _) (Nat.zero_le _) ?_
  show jx_W (jm_MD_personHere, _, _, _, _, _, _) _ 0 0 0 [some _] [] _
  refine jr_aload rfl rfl ?_
  refine jr_aload rfl rfl ?_
  refine jr_getR rfl rfl rfl rfl (Or.inl rfl) ?_
  refine jr_ic rfl ?_
  refine jr_aload rfl rfl ?_
  refine jr_getI rfl rfl ?_
  refine jr_imul rfl ?_
  refine jr_aload rfl rfl ?_
  refine jr_getR rfl rfl rfl rfl (Or.inl rfl) ?_
  refine jr_aload rfl rfl ?_
  refine jr_getI rfl rfl ?_
  refine jr_iald (len := 2) rfl rfl (by first | exact b1) (by omega) ?_
  rw [show jh_I (ju_I (ju_L (h1) 92 0 (vp_updL (jh_L (h1) 92 0) ((12 * β + V 0 2)) (v))) 73 0 (upd (jh_I (ju_L (h1) 92 0 (vp_updL (jh_L (h1) 92 0) ((12 * β + V 0 2)) (v))) 73 0) ((12 * β + V 0 2)) (0))) 11 0 44 = nI β from b1, show jh_I (ju_I (ju_L (h1) 92 0 (vp_updL (jh_L (h1) 92 0) ((12 * β + V 0 2)) (v))) 73 0 (upd (jh_I (ju_L (h1) 92 0 (vp_updL (jh_L (h1) 92 0) ((12 * β + V 0 2)) (v))) 73 0) ((12 * β + V 0 2)) (0))) 67 0 β = nI (V 0 1) from (congrFun (g1.1 67 0 (by decide)) β).trans p1, show (5 : Int32) * nI β = nI (5 * β) from jn_mul rfl rfl]
  refine jr_cv3 (mc' := 0) (ms' := 0) rfl jm_MD_here_n jm_MD_here_f rfl rfl rfl rfl rfl rfl rfl (Nat.zero_le _) (Nat.zero_le _) ?_
  refine eM_here_p (B := B) (sz := sz) (t := t) m1 hβ hWp (fun j hj => (congrFun (congrFun (congrFun (congrArg (·.1) g1.2.1) 91) 0) _).trans ((p2 j hj).2)) (by omega) ?_
  refine jr_iret rfl rfl (Nat.zero_le _) (Nat.zero_le _) ?_
  refine jr_cv1 (mc' := 0) (ms' := 0) rfl jm_MD_told_n jm_MD_told_f rfl rfl rfl rfl rfl rfl rfl (Nat.zero_le _) (Nat.zero_le _) ?_
  refine eM_told_b e1 ?_
  refine jr_iast (len := 24) rfl rfl rfl (by omega) ?_
  refine jr_aload rfl rfl ?_
  refine jr_cv0 (mc' := 0) (ms' := 0) rfl jm_MD_isGood_n jm_MD_isGood_f rfl rfl rfl rfl rfl rfl rfl (Nat.zero_le _) (Nat.zero_le _) ?_
  show jx_W (jm_MD_isGood, _, _, _, _, _, _) _ 0 0 0 [some _] [] _
  refine jr_aload rfl rfl ?_
  refine jr_getI rfl rfl ?_
  refine jr_if_ne rfl (fun _ => ?_) (fun z => absurd z e1)
  refine jr_ic rfl ?_
  refine jr_zret rfl rfl rfl (Nat.zero_le _) (Nat.zero_le _) ?_
  refine jr_if_eq rfl (fun _ => ?_) (fun z => absurd (by decide) z)
  refine jr_aload rfl rfl ?_
  refine jr_cv0 (mc' := 0) (ms' := 0) rfl jm_MD_isGood_n jm_MD_isGood_f rfl rfl rfl rfl rfl rfl rfl (Nat.zero_le _) (Nat.zero_le _) ?_
  show jx_W (jm_MD_isGood, _, _, _, _, _, _) _ 0 0 0 [some _] [] _
  refine jr_aload rfl rfl ?_
  refine jr_getI rfl rfl ?_
  refine jr_if_ne rfl (fun _ => ?_) (fun z => absurd z e1)
  refine jr_ic rfl ?_
  refine jr_zret rfl rfl rfl (Nat.zero_le _) (Nat.zero_le _) ?_
  refine jr_if_eq rfl (fun _ => ?_) (fun z => absurd (by decide) z)
  refine jr_aload rfl rfl ?_
  refine jr_getR rfl rfl rfl rfl (Or.inl rfl) ?_
  refine jr_iload rfl rfl ?_
  refine jr_aload rfl rfl ?_
  refine jr_lc rfl ?_
  refine jr_ic rfl ?_
  refine jr_ic rfl ?_
  refine jr_cv3 (mc' := 0) (ms' := 0) rfl jm_MD_after_n jm_MD_after_f rfl rfl rfl rfl rfl rfl rfl (Nat.zero_le _) (Nat.zero_le _) ?_
  show jx_W (jm_MD_after, _, _, _, _, _, _) _ 0 0 0 [some _, some _, none, some _, some _] [] _
  refine jr_aload rfl rfl ?_
  refine jr_aload rfl rfl ?_
  refine jr_lload rfl rfl ?_
  refine jr_cv1 (mc' := 0) (ms' := 0) rfl jm_MD_isWord_n jm_MD_isWord_f rfl rfl rfl rfl rfl rfl rfl (Nat.zero_le _) (Nat.zero_le _) ?_
  refine eM_isWord (B := B) (sz := sz) (t := t) m1 (i := 14) (by decide) jT_W14 ?_
  refine jr_cv1 (mc' := 0) (ms' := 0) rfl jm_MD_must_n jm_MD_must_f rfl rfl rfl rfl rfl rfl rfl (Nat.zero_le _) (Nat.zero_le _) ?_
  refine eM_must_b e1 ?_
  refine jr_aload rfl rfl ?_
  refine jr_iload rfl rfl ?_
  refine jr_iload rfl rfl ?_
  refine jr_cv2 (mc' := 0) (ms' := 0) rfl jm_MD_numeral_n jm_MD_numeral_f rfl rfl rfl rfl rfl rfl rfl (Nat.zero_le _) (Nat.zero_le _) ?_
  refine eM_num_b (lo := 1) (hi := 99) e1 ?_
  refine jr_iret rfl rfl (Nat.zero_le _) (Nat.zero_le _) ?_
  refine jr_iast (len := 24) rfl rfl rfl (by omega) ?_
  refine jr_aload rfl rfl ?_
  refine jr_getR rfl rfl rfl rfl (Or.inl rfl) ?_
  refine jr_iload rfl rfl ?_
  refine jr_aload rfl rfl ?_
  refine jr_lc rfl ?_
  refine jr_ic rfl ?_
  refine jr_ic rfl ?_
  refine jr_cv3 (mc' := 0) (ms' := 0) rfl jm_MD_after_n jm_MD_after_f rfl rfl rfl rfl rfl rfl rfl (Nat.zero_le _) (Nat.zero_le _) ?_
  show jx_W (jm_MD_after, _, _, _, _, _, _) _ 0 0 0 [some _, some _, none, some _, some _] [] _
  refine jr_aload rfl rfl ?_
  refine jr_aload rfl rfl ?_
  refine jr_lload rfl rfl ?_
  refine jr_cv1 (mc' := 0) (ms' := 0) rfl jm_MD_isWord_n jm_MD_isWord_f rfl rfl rfl rfl rfl rfl rfl (Nat.zero_le _) (Nat.zero_le _) ?_
  refine eM_isWord (B := B) (sz := sz) (t := t) m1 (i := 15) (by decide) jT_W15 ?_
  refine jr_cv1 (mc' := 0) (ms' := 0) rfl jm_MD_must_n jm_MD_must_f rfl rfl rfl rfl rfl rfl rfl (Nat.zero_le _) (Nat.zero_le _) ?_
  refine eM_must_b e1 ?_
  refine jr_aload rfl rfl ?_
  refine jr_iload rfl rfl ?_
  refine jr_iload rfl rfl ?_
  refine jr_cv2 (mc' := 0) (ms' := 0) rfl jm_MD_numeral_n jm_MD_numeral_f rfl rfl rfl rfl rfl rfl rfl (Nat.zero_le _) (Nat.zero_le _) ?_
  refine eM_num_b (lo := 1) (hi := 31) e1 ?_
  refine jr_iret rfl rfl (Nat.zero_le _) (Nat.zero_le _) ?_
  refine jr_iast (len := 24) rfl rfl rfl (by omega) ?_
  refine jr_aload rfl rfl ?_
  refine jr_aload rfl rfl ?_
  refine jr_lc rfl ?_
  refine jr_cv1 (mc' := 0) (ms' := 0) rfl jm_MD_isWord_n jm_MD_isWord_f rfl rfl rfl rfl rfl rfl rfl (Nat.zero_le _) (Nat.zero_le _) ?_
  refine eM_isWord (B := B) (sz := sz) (t := t) m1 (i := 16) (by decide) jT_W16 ?_
  refine jr_cv1 (mc' := 0) (ms' := 0) rfl jm_MD_must_n jm_MD_must_f rfl rfl rfl rfl rfl rfl rfl (Nat.zero_le _) (Nat.zero_le _) ?_
  refine eM_must_b e1 ?_
  refine jr_aload rfl rfl ?_
  refine jr_getR rfl rfl rfl rfl (Or.inl rfl) ?_
  refine jr_iload rfl rfl ?_
  refine jr_aload rfl rfl ?_
  refine jr_aload rfl rfl ?_
  refine jr_aload rfl rfl ?_
  refine jr_getR rfl rfl rfl rfl (Or.inl rfl) ?_
  refine jr_ic rfl ?_
  refine jr_aload rfl rfl ?_
  refine jr_getI rfl rfl ?_
  refine jr_imul rfl ?_
  refine jr_aload rfl rfl ?_
  refine jr_getR rfl rfl rfl rfl (Or.inl rfl) ?_
  refine jr_aload rfl rfl ?_
  refine jr_getI rfl rfl ?_
  refine jr_iald (len := 2) rfl rfl b1 (by omega) ?_
  rw [show jh_I (ju_I (ju_I (ju_I (ju_I (ju_L (h1) 92 0 (vp_updL (jh_L (h1) 92 0) ((12 * β + V 0 2)) (v))) 73 0 (upd (jh_I (ju_L (h1) 92 0 (vp_updL (jh_L (h1) 92 0) ((12 * β + V 0 2)) (v))) 73 0) ((12 * β + V 0 2)) (0))) 74 0 (upd (jh_I (ju_I (ju_L (h1) 92 0 (vp_updL (jh_L (h1) 92 0) ((12 * β + V 0 2)) (v))) 73 0 (upd (jh_I (ju_L (h1) 92 0 (vp_updL (jh_L (h1) 92 0) ((12 * β + V 0 2)) (v))) 73 0) ((12 * β + V 0 2)) (0))) 74 0) ((12 * β + V 0 2)) (0))) 75 0 (upd (jh_I (ju_I (ju_I (ju_L (h1) 92 0 (vp_updL (jh_L (h1) 92 0) ((12 * β + V 0 2)) (v))) 73 0 (upd (jh_I (ju_L (h1) 92 0 (vp_updL (jh_L (h1) 92 0) ((12 * β + V 0 2)) (v))) 73 0) ((12 * β + V 0 2)) (0))) 74 0 (upd (jh_I (ju_I (ju_L (h1) 92 0 (vp_updL (jh_L (h1) 92 0) ((12 * β + V 0 2)) (v))) 73 0 (upd (jh_I (ju_L (h1) 92 0 (vp_updL (jh_L (h1) 92 0) ((12 * β + V 0 2)) (v))) 73 0) ((12 * β + V 0 2)) (0))) 74 0) ((12 * β + V 0 2)) (0))) 75 0) ((12 * β + V 0 2)) (nI 1))) 76 0 (upd (jh_I (ju_I (ju_I (ju_I (ju_L (h1) 92 0 (vp_updL (jh_L (h1) 92 0) ((12 * β + V 0 2)) (v))) 73 0 (upd (jh_I (ju_L (h1) 92 0 (vp_updL (jh_L (h1) 92 0) ((12 * β + V 0 2)) (v))) 73 0) ((12 * β + V 0 2)) (0))) 74 0 (upd (jh_I (ju_I (ju_L (h1) 92 0 (vp_updL (jh_L (h1) 92 0) ((12 * β + V 0 2)) (v))) 73 0 (upd (jh_I (ju_L (h1) 92 0 (vp_updL (jh_L (h1) 92 0) ((12 * β + V 0 2)) (v))) 73 0) ((12 * β + V 0 2)) (0))) 74 0) ((12 * β + V 0 2)) (0))) 75 0 (upd (jh_I (ju_I (ju_I (ju_L (h1) 92 0 (vp_updL (jh_L (h1) 92 0) ((12 * β + V 0 2)) (v))) 73 0 (upd (jh_I (ju_L (h1) 92 0 (vp_updL (jh_L (h1) 92 0) ((12 * β + V 0 2)) (v))) 73 0) ((12 * β + V 0 2)) (0))) 74 0 (upd (jh_I (ju_I (ju_L (h1) 92 0 (vp_updL (jh_L (h1) 92 0) ((12 * β + V 0 2)) (v))) 73 0 (upd (jh_I (ju_L (h1) 92 0 (vp_updL (jh_L (h1) 92 0) ((12 * β + V 0 2)) (v))) 73 0) ((12 * β + V 0 2)) (0))) 74 0) ((12 * β + V 0 2)) (0))) 75 0) ((12 * β + V 0 2)) (nI 1))) 76 0) ((12 * β + V 0 2)) (nI 1))) 11 0 44 = nI β from b1, show jh_I (ju_I (ju_I (ju_I (ju_I (ju_L (h1) 92 0 (vp_updL (jh_L (h1) 92 0) ((12 * β + V 0 2)) (v))) 73 0 (upd (jh_I (ju_L (h1) 92 0 (vp_updL (jh_L (h1) 92 0) ((12 * β + V 0 2)) (v))) 73 0) ((12 * β + V 0 2)) (0))) 74 0 (upd (jh_I (ju_I (ju_L (h1) 92 0 (vp_updL (jh_L (h1) 92 0) ((12 * β + V 0 2)) (v))) 73 0 (upd (jh_I (ju_L (h1) 92 0 (vp_updL (jh_L (h1) 92 0) ((12 * β + V 0 2)) (v))) 73 0) ((12 * β + V 0 2)) (0))) 74 0) ((12 * β + V 0 2)) (0))) 75 0 (upd (jh_I (ju_I (ju_I (ju_L (h1) 92 0 (vp_updL (jh_L (h1) 92 0) ((12 * β + V 0 2)) (v))) 73 0 (upd (jh_I (ju_L (h1) 92 0 (vp_updL (jh_L (h1) 92 0) ((12 * β + V 0 2)) (v))) 73 0) ((12 * β + V 0 2)) (0))) 74 0 (upd (jh_I (ju_I (ju_L (h1) 92 0 (vp_updL (jh_L (h1) 92 0) ((12 * β + V 0 2)) (v))) 73 0 (upd (jh_I (ju_L (h1) 92 0 (vp_updL (jh_L (h1) 92 0) ((12 * β + V 0 2)) (v))) 73 0) ((12 * β + V 0 2)) (0))) 74 0) ((12 * β + V 0 2)) (0))) 75 0) ((12 * β + V 0 2)) (nI 1))) 76 0 (upd (jh_I (ju_I (ju_I (ju_I (ju_L (h1) 92 0 (vp_updL (jh_L (h1) 92 0) ((12 * β + V 0 2)) (v))) 73 0 (upd (jh_I (ju_L (h1) 92 0 (vp_updL (jh_L (h1) 92 0) ((12 * β + V 0 2)) (v))) 73 0) ((12 * β + V 0 2)) (0))) 74 0 (upd (jh_I (ju_I (ju_L (h1) 92 0 (vp_updL (jh_L (h1) 92 0) ((12 * β + V 0 2)) (v))) 73 0 (upd (jh_I (ju_L (h1) 92 0 (vp_updL (jh_L (h1) 92 0) ((12 * β + V 0 2)) (v))) 73 0) ((12 * β + V 0 2)) (0))) 74 0) ((12 * β + V 0 2)) (0))) 75 0 (upd (jh_I (ju_I (ju_I (ju_L (h1) 92 0 (vp_updL (jh_L (h1) 92 0) ((12 * β + V 0 2)) (v))) 73 0 (upd (jh_I (ju_L (h1) 92 0 (vp_updL (jh_L (h1) 92 0) ((12 * β + V 0 2)) (v))) 73 0) ((12 * β + V 0 2)) (0))) 74 0 (upd (jh_I (ju_I (ju_L (h1) 92 0 (vp_updL (jh_L (h1) 92 0) ((12 * β + V 0 2)) (v))) 73 0 (upd (jh_I (ju_L (h1) 92 0 (vp_updL (jh_L (h1) 92 0) ((12 * β + V 0 2)) (v))) 73 0) ((12 * β + V 0 2)) (0))) 74 0) ((12 * β + V 0 2)) (0))) 75 0) ((12 * β + V 0 2)) (nI 1))) 76 0) ((12 * β + V 0 2)) (nI 1))) 66 0 β = nI (V 0 0) from (congrFun (g1.1 66 0 (by decide)) β).trans a1, show (6 : Int32) * nI β = nI (6 * β) from jn_mul rfl rfl]
  refine jr_cv3 (mc' := 0) (ms' := 0) rfl jm_MD_here_n jm_MD_here_f rfl rfl rfl rfl rfl rfl rfl (Nat.zero_le _) (Nat.zero_le _) ?_
  refine eM_here_m (B := B) (sz := sz) (t := t) m1 hβ hWm (fun j hj => (congrFun (congrFun (congrFun (congrArg (·.1) g1.2.1) 90) 0) _).trans ((a2 j hj).2.2)) (by omega) ?_
  refine jr_cv1 (mc' := 0) (ms' := 0) rfl jm_MD_told_n jm_MD_told_f rfl rfl rfl rfl rfl rfl rfl (Nat.zero_le _) (Nat.zero_le _) ?_
  refine eM_told_b e1 ?_
  refine jr_iast (len := 24) rfl rfl rfl (by omega) ?_
  refine jr_aload rfl rfl ?_
  refine jr_cv0 (mc' := 0) (ms' := 0) rfl jm_MD_isGood_n jm_MD_isGood_f rfl rfl rfl rfl rfl rfl rfl (Nat.zero_le _) (Nat.zero_le _) ?_
  show jx_W (jm_MD_isGood, _, _, _, _, _, _) _ 0 0 0 [some _] [] _
  refine jr_aload rfl rfl ?_
  refine jr_getI rfl rfl ?_
  refine jr_if_ne rfl (fun _ => ?_) (fun z => absurd z e1)
  refine jr_ic rfl ?_
  refine jr_zret rfl rfl rfl (Nat.zero_le _) (Nat.zero_le _) ?_
  refine jr_if_eq rfl (fun _ => ?_) (fun z => absurd (by decide) z)
  refine jr_aload rfl rfl ?_
  refine jr_getR rfl rfl rfl rfl (Or.inl rfl) ?_
  refine jr_iload rfl rfl ?_
  refine jr_aload rfl rfl ?_
  refine jr_lc rfl ?_
  refine jr_cv1 (mc' := 0) (ms' := 0) rfl jm_MD_has_n jm_MD_has_f rfl rfl rfl rfl rfl rfl rfl (Nat.zero_le _) (Nat.zero_le _) ?_
  refine eM_has_b e1 ?_
  refine jr_zast (len := 24) rfl rfl rfl (by omega) ?_
  refine jr_aload rfl rfl ?_
  refine jr_getR rfl rfl rfl rfl (Or.inl rfl) ?_
  refine jr_aload rfl rfl ?_
  refine jr_getI rfl rfl ?_
  refine jr_dup2 rfl ?_
  refine jr_iald (len := 2) rfl rfl b1 (by omega) ?_
  refine jr_ic rfl ?_
  refine jr_iadd rfl ?_
  rw [show jh_I (ju_I (ju_I (ju_I (ju_I (ju_I (ju_I (ju_L (h1) 92 0 (vp_updL (jh_L (h1) 92 0) ((12 * β + V 0 2)) (v))) 73 0 (upd (jh_I (ju_L (h1) 92 0 (vp_updL (jh_L (h1) 92 0) ((12 * β + V 0 2)) (v))) 73 0) ((12 * β + V 0 2)) (0))) 74 0 (upd (jh_I (ju_I (ju_L (h1) 92 0 (vp_updL (jh_L (h1) 92 0) ((12 * β + V 0 2)) (v))) 73 0 (upd (jh_I (ju_L (h1) 92 0 (vp_updL (jh_L (h1) 92 0) ((12 * β + V 0 2)) (v))) 73 0) ((12 * β + V 0 2)) (0))) 74 0) ((12 * β + V 0 2)) (0))) 75 0 (upd (jh_I (ju_I (ju_I (ju_L (h1) 92 0 (vp_updL (jh_L (h1) 92 0) ((12 * β + V 0 2)) (v))) 73 0 (upd (jh_I (ju_L (h1) 92 0 (vp_updL (jh_L (h1) 92 0) ((12 * β + V 0 2)) (v))) 73 0) ((12 * β + V 0 2)) (0))) 74 0 (upd (jh_I (ju_I (ju_L (h1) 92 0 (vp_updL (jh_L (h1) 92 0) ((12 * β + V 0 2)) (v))) 73 0 (upd (jh_I (ju_L (h1) 92 0 (vp_updL (jh_L (h1) 92 0) ((12 * β + V 0 2)) (v))) 73 0) ((12 * β + V 0 2)) (0))) 74 0) ((12 * β + V 0 2)) (0))) 75 0) ((12 * β + V 0 2)) (nI 1))) 76 0 (upd (jh_I (ju_I (ju_I (ju_I (ju_L (h1) 92 0 (vp_updL (jh_L (h1) 92 0) ((12 * β + V 0 2)) (v))) 73 0 (upd (jh_I (ju_L (h1) 92 0 (vp_updL (jh_L (h1) 92 0) ((12 * β + V 0 2)) (v))) 73 0) ((12 * β + V 0 2)) (0))) 74 0 (upd (jh_I (ju_I (ju_L (h1) 92 0 (vp_updL (jh_L (h1) 92 0) ((12 * β + V 0 2)) (v))) 73 0 (upd (jh_I (ju_L (h1) 92 0 (vp_updL (jh_L (h1) 92 0) ((12 * β + V 0 2)) (v))) 73 0) ((12 * β + V 0 2)) (0))) 74 0) ((12 * β + V 0 2)) (0))) 75 0 (upd (jh_I (ju_I (ju_I (ju_L (h1) 92 0 (vp_updL (jh_L (h1) 92 0) ((12 * β + V 0 2)) (v))) 73 0 (upd (jh_I (ju_L (h1) 92 0 (vp_updL (jh_L (h1) 92 0) ((12 * β + V 0 2)) (v))) 73 0) ((12 * β + V 0 2)) (0))) 74 0 (upd (jh_I (ju_I (ju_L (h1) 92 0 (vp_updL (jh_L (h1) 92 0) ((12 * β + V 0 2)) (v))) 73 0 (upd (jh_I (ju_L (h1) 92 0 (vp_updL (jh_L (h1) 92 0) ((12 * β + V 0 2)) (v))) 73 0) ((12 * β + V 0 2)) (0))) 74 0) ((12 * β + V 0 2)) (0))) 75 0) ((12 * β + V 0 2)) (nI 1))) 76 0) ((12 * β + V 0 2)) (nI 1))) 77 0 (upd (jh_I (ju_I (ju_I (ju_I (ju_I (ju_L (h1) 92 0 (vp_updL (jh_L (h1) 92 0) ((12 * β + V 0 2)) (v))) 73 0 (upd (jh_I (ju_L (h1) 92 0 (vp_updL (jh_L (h1) 92 0) ((12 * β + V 0 2)) (v))) 73 0) ((12 * β + V 0 2)) (0))) 74 0 (upd (jh_I (ju_I (ju_L (h1) 92 0 (vp_updL (jh_L (h1) 92 0) ((12 * β + V 0 2)) (v))) 73 0 (upd (jh_I (ju_L (h1) 92 0 (vp_updL (jh_L (h1) 92 0) ((12 * β + V 0 2)) (v))) 73 0) ((12 * β + V 0 2)) (0))) 74 0) ((12 * β + V 0 2)) (0))) 75 0 (upd (jh_I (ju_I (ju_I (ju_L (h1) 92 0 (vp_updL (jh_L (h1) 92 0) ((12 * β + V 0 2)) (v))) 73 0 (upd (jh_I (ju_L (h1) 92 0 (vp_updL (jh_L (h1) 92 0) ((12 * β + V 0 2)) (v))) 73 0) ((12 * β + V 0 2)) (0))) 74 0 (upd (jh_I (ju_I (ju_L (h1) 92 0 (vp_updL (jh_L (h1) 92 0) ((12 * β + V 0 2)) (v))) 73 0 (upd (jh_I (ju_L (h1) 92 0 (vp_updL (jh_L (h1) 92 0) ((12 * β + V 0 2)) (v))) 73 0) ((12 * β + V 0 2)) (0))) 74 0) ((12 * β + V 0 2)) (0))) 75 0) ((12 * β + V 0 2)) (nI 1))) 76 0 (upd (jh_I (ju_I (ju_I (ju_I (ju_L (h1) 92 0 (vp_updL (jh_L (h1) 92 0) ((12 * β + V 0 2)) (v))) 73 0 (upd (jh_I (ju_L (h1) 92 0 (vp_updL (jh_L (h1) 92 0) ((12 * β + V 0 2)) (v))) 73 0) ((12 * β + V 0 2)) (0))) 74 0 (upd (jh_I (ju_I (ju_L (h1) 92 0 (vp_updL (jh_L (h1) 92 0) ((12 * β + V 0 2)) (v))) 73 0 (upd (jh_I (ju_L (h1) 92 0 (vp_updL (jh_L (h1) 92 0) ((12 * β + V 0 2)) (v))) 73 0) ((12 * β + V 0 2)) (0))) 74 0) ((12 * β + V 0 2)) (0))) 75 0 (upd (jh_I (ju_I (ju_I (ju_L (h1) 92 0 (vp_updL (jh_L (h1) 92 0) ((12 * β + V 0 2)) (v))) 73 0 (upd (jh_I (ju_L (h1) 92 0 (vp_updL (jh_L (h1) 92 0) ((12 * β + V 0 2)) (v))) 73 0) ((12 * β + V 0 2)) (0))) 74 0 (upd (jh_I (ju_I (ju_L (h1) 92 0 (vp_updL (jh_L (h1) 92 0) ((12 * β + V 0 2)) (v))) 73 0 (upd (jh_I (ju_L (h1) 92 0 (vp_updL (jh_L (h1) 92 0) ((12 * β + V 0 2)) (v))) 73 0) ((12 * β + V 0 2)) (0))) 74 0) ((12 * β + V 0 2)) (0))) 75 0) ((12 * β + V 0 2)) (nI 1))) 76 0) ((12 * β + V 0 2)) (nI 1))) 77 0) ((12 * β + V 0 2)) (0))) 84 0 (upd (jh_I (ju_I (ju_I (ju_I (ju_I (ju_I (ju_L (h1) 92 0 (vp_updL (jh_L (h1) 92 0) ((12 * β + V 0 2)) (v))) 73 0 (upd (jh_I (ju_L (h1) 92 0 (vp_updL (jh_L (h1) 92 0) ((12 * β + V 0 2)) (v))) 73 0) ((12 * β + V 0 2)) (0))) 74 0 (upd (jh_I (ju_I (ju_L (h1) 92 0 (vp_updL (jh_L (h1) 92 0) ((12 * β + V 0 2)) (v))) 73 0 (upd (jh_I (ju_L (h1) 92 0 (vp_updL (jh_L (h1) 92 0) ((12 * β + V 0 2)) (v))) 73 0) ((12 * β + V 0 2)) (0))) 74 0) ((12 * β + V 0 2)) (0))) 75 0 (upd (jh_I (ju_I (ju_I (ju_L (h1) 92 0 (vp_updL (jh_L (h1) 92 0) ((12 * β + V 0 2)) (v))) 73 0 (upd (jh_I (ju_L (h1) 92 0 (vp_updL (jh_L (h1) 92 0) ((12 * β + V 0 2)) (v))) 73 0) ((12 * β + V 0 2)) (0))) 74 0 (upd (jh_I (ju_I (ju_L (h1) 92 0 (vp_updL (jh_L (h1) 92 0) ((12 * β + V 0 2)) (v))) 73 0 (upd (jh_I (ju_L (h1) 92 0 (vp_updL (jh_L (h1) 92 0) ((12 * β + V 0 2)) (v))) 73 0) ((12 * β + V 0 2)) (0))) 74 0) ((12 * β + V 0 2)) (0))) 75 0) ((12 * β + V 0 2)) (nI 1))) 76 0 (upd (jh_I (ju_I (ju_I (ju_I (ju_L (h1) 92 0 (vp_updL (jh_L (h1) 92 0) ((12 * β + V 0 2)) (v))) 73 0 (upd (jh_I (ju_L (h1) 92 0 (vp_updL (jh_L (h1) 92 0) ((12 * β + V 0 2)) (v))) 73 0) ((12 * β + V 0 2)) (0))) 74 0 (upd (jh_I (ju_I (ju_L (h1) 92 0 (vp_updL (jh_L (h1) 92 0) ((12 * β + V 0 2)) (v))) 73 0 (upd (jh_I (ju_L (h1) 92 0 (vp_updL (jh_L (h1) 92 0) ((12 * β + V 0 2)) (v))) 73 0) ((12 * β + V 0 2)) (0))) 74 0) ((12 * β + V 0 2)) (0))) 75 0 (upd (jh_I (ju_I (ju_I (ju_L (h1) 92 0 (vp_updL (jh_L (h1) 92 0) ((12 * β + V 0 2)) (v))) 73 0 (upd (jh_I (ju_L (h1) 92 0 (vp_updL (jh_L (h1) 92 0) ((12 * β + V 0 2)) (v))) 73 0) ((12 * β + V 0 2)) (0))) 74 0 (upd (jh_I (ju_I (ju_L (h1) 92 0 (vp_updL (jh_L (h1) 92 0) ((12 * β + V 0 2)) (v))) 73 0 (upd (jh_I (ju_L (h1) 92 0 (vp_updL (jh_L (h1) 92 0) ((12 * β + V 0 2)) (v))) 73 0) ((12 * β + V 0 2)) (0))) 74 0) ((12 * β + V 0 2)) (0))) 75 0) ((12 * β + V 0 2)) (nI 1))) 76 0) ((12 * β + V 0 2)) (nI 1))) 77 0 (upd (jh_I (ju_I (ju_I (ju_I (ju_I (ju_L (h1) 92 0 (vp_updL (jh_L (h1) 92 0) ((12 * β + V 0 2)) (v))) 73 0 (upd (jh_I (ju_L (h1) 92 0 (vp_updL (jh_L (h1) 92 0) ((12 * β + V 0 2)) (v))) 73 0) ((12 * β + V 0 2)) (0))) 74 0 (upd (jh_I (ju_I (ju_L (h1) 92 0 (vp_updL (jh_L (h1) 92 0) ((12 * β + V 0 2)) (v))) 73 0 (upd (jh_I (ju_L (h1) 92 0 (vp_updL (jh_L (h1) 92 0) ((12 * β + V 0 2)) (v))) 73 0) ((12 * β + V 0 2)) (0))) 74 0) ((12 * β + V 0 2)) (0))) 75 0 (upd (jh_I (ju_I (ju_I (ju_L (h1) 92 0 (vp_updL (jh_L (h1) 92 0) ((12 * β + V 0 2)) (v))) 73 0 (upd (jh_I (ju_L (h1) 92 0 (vp_updL (jh_L (h1) 92 0) ((12 * β + V 0 2)) (v))) 73 0) ((12 * β + V 0 2)) (0))) 74 0 (upd (jh_I (ju_I (ju_L (h1) 92 0 (vp_updL (jh_L (h1) 92 0) ((12 * β + V 0 2)) (v))) 73 0 (upd (jh_I (ju_L (h1) 92 0 (vp_updL (jh_L (h1) 92 0) ((12 * β + V 0 2)) (v))) 73 0) ((12 * β + V 0 2)) (0))) 74 0) ((12 * β + V 0 2)) (0))) 75 0) ((12 * β + V 0 2)) (nI 1))) 76 0 (upd (jh_I (ju_I (ju_I (ju_I (ju_L (h1) 92 0 (vp_updL (jh_L (h1) 92 0) ((12 * β + V 0 2)) (v))) 73 0 (upd (jh_I (ju_L (h1) 92 0 (vp_updL (jh_L (h1) 92 0) ((12 * β + V 0 2)) (v))) 73 0) ((12 * β + V 0 2)) (0))) 74 0 (upd (jh_I (ju_I (ju_L (h1) 92 0 (vp_updL (jh_L (h1) 92 0) ((12 * β + V 0 2)) (v))) 73 0 (upd (jh_I (ju_L (h1) 92 0 (vp_updL (jh_L (h1) 92 0) ((12 * β + V 0 2)) (v))) 73 0) ((12 * β + V 0 2)) (0))) 74 0) ((12 * β + V 0 2)) (0))) 75 0 (upd (jh_I (ju_I (ju_I (ju_L (h1) 92 0 (vp_updL (jh_L (h1) 92 0) ((12 * β + V 0 2)) (v))) 73 0 (upd (jh_I (ju_L (h1) 92 0 (vp_updL (jh_L (h1) 92 0) ((12 * β + V 0 2)) (v))) 73 0) ((12 * β + V 0 2)) (0))) 74 0 (upd (jh_I (ju_I (ju_L (h1) 92 0 (vp_updL (jh_L (h1) 92 0) ((12 * β + V 0 2)) (v))) 73 0 (upd (jh_I (ju_L (h1) 92 0 (vp_updL (jh_L (h1) 92 0) ((12 * β + V 0 2)) (v))) 73 0) ((12 * β + V 0 2)) (0))) 74 0) ((12 * β + V 0 2)) (0))) 75 0) ((12 * β + V 0 2)) (nI 1))) 76 0) ((12 * β + V 0 2)) (nI 1))) 77 0) ((12 * β + V 0 2)) (0))) 84 0) ((12 * β + V 0 2)) (0 &&& 1))) 68 0 β = nI (V 0 2) from (congrFun (g1.1 68 0 (by decide)) β).trans c1, show nI (V 0 2) + 1 = nI (V 0 2 + 1) from jn_S _]
  refine jr_iast (len := 2) rfl rfl b1 (by omega) ?_
  refine jr_vret rfl rfl (Nat.zero_le _) (Nat.zero_le _) ?_
  exact k _ (jMF_I (a := 68) (w := 1) (jMF_I (a := 84) (w := 12) (jMF_I (a := 77) (w := 12) (jMF_I (a := 76) (w := 12) (jMF_I (a := 75) (w := 12) (jMF_I (a := 74) (w := 12) (jMF_I (a := 73) (w := 12) (jMF_L (a := 92) (w := 12) (jMF_ft (F) g1) (by decide) (by decide) (by omega) (by omega)) (by decide) (by decide) (by omega) (by omega)) (by decide) (by decide) (by omega) (by omega)) (by decide) (by decide) (by omega) (by omega)) (by decide) (by decide) (by omega) (by omega)) (by decide) (by decide) (by omega) (by omega)) (by decide) (by decide) (by omega) (by omega)) (by decide) (by decide) (by omega) (by omega)) g1.2.2.2.1 g1.2.2.2.2

set_option maxHeartbeats 800000 in
set_option maxRecDepth 100000 in
theorem eM_due_b1 {d : Nat} {h : jx_H} {Q : Option jx_V → jx_H → Prop} {h0 : jx_H} {B : Nat → Int32} {sz β t : Nat} {V : Nat → Nat → Nat} {W : Nat → Nat → List Nat} {D : Nat → Int32} (x : jML h B sz β t V W D) (F : jMF β h0 h) (hβ : β < 2) (hn : V 0 2 < 12) (h5 : V 0 1 ≤ 5) (h6 : V 0 0 ≤ 6) (hW : jnW (W 2) (V 0 2)) (hWp : jnW (W 1) (V 0 1)) (hWm : jnW (W 0) (V 0 0)) (k0 : jT_K B sz t = 3) (n0 : ∃ j, jnF (W 2) (jT_wd B sz (jT_p B sz t)) (V 0 2) 0 = some j) (k : ∀ h', jMF β h0 h' → jh_I h' 11 0 4 = 3 → jPl h' (jT_p B sz t) → Q none h')  : jx_Ev jm_MD_readDue (d + 8) 0 0 false 1 [jv_r 11 0] h Q := by
  show jx_W (jm_MD_readDue, d + 8, 0, 0, false, 1, _) Q 0 0 0 [some (jv_r 11 0), none] [] _
  obtain ⟨⟨t0, m0, f0, b0, -, -, -, -⟩, ⟨⟨a1, a2⟩, ⟨p1, p2⟩, ⟨c1, c2⟩, -⟩, -⟩ := id x
  have xb := b0
  have hr : ∀ j, j < V 0 2 → jh_L h 92 0 (12 * β + j) = jT_key (W 2 j) := fun j hj => (c2 j hj).2
  refine jr_ic rfl ?_
  refine jr_aload rfl rfl ?_
  refine jr_getI rfl rfl ?_
  refine jr_imul rfl ?_
  refine jr_aload rfl rfl ?_
  refine jr_getR rfl rfl rfl rfl (Or.inl rfl) ?_
  refine jr_aload rfl rfl ?_
  refine jr_getI rfl rfl ?_
  refine jr_iald (len := 2) rfl rfl b0 (by omega) ?_
  refine jr_iadd rfl ?_
  rw [xb, c1, show (12 : Int32) * nI β + nI (V 0 2) = nI (12 * β + V 0 2) from jn_add (jn_mul rfl rfl) rfl]
  refine jr_ist1 rfl rfl ?_
  refine jr_aload rfl rfl ?_
  refine jr_getR rfl rfl rfl rfl (Or.inl rfl) ?_
  refine jr_iload rfl rfl ?_
  refine jr_aload rfl rfl ?_
  refine jr_aload rfl rfl ?_
  refine jr_aload rfl rfl ?_
  refine jr_getR rfl rfl rfl rfl (Or.inl rfl) ?_
  refine jr_ic rfl ?_
  refine jr_aload rfl rfl ?_
  refine jr_getI rfl rfl ?_
  refine jr_imul rfl ?_
  refine jr_aload rfl rfl ?_
  refine jr_getR rfl rfl rfl rfl (Or.inl rfl) ?_
  refine jr_aload rfl rfl ?_
  refine jr_getI rfl rfl ?_
  refine jr_iald (len := 2) rfl rfl b0 (by omega) ?_
  rw [xb, c1, show (12 : Int32) * nI β = nI (12 * β) from jn_mul rfl rfl]
  refine jr_cv3 (mc' := 0) (ms' := 0) rfl jm_MD_here_n jm_MD_here_f rfl rfl rfl rfl rfl rfl rfl (Nat.zero_le _) (Nat.zero_le _) ?_
  refine eM_here_d m0 hβ hW hr (by omega) ?_
  rw [if_pos k0]
  obtain ⟨j, n0⟩ := n0
  have hj := (jnF_lt _ _ j n0).2.1
  rw [n0]
  refine jr_cv1 (mc' := 0) (ms' := 0) rfl jm_MD_fresh_n jm_MD_fresh_f rfl rfl rfl rfl rfl rfl rfl (Nat.zero_le _) (Nat.zero_le _) ?_
  refine eM_fresh_d (B := B) (sz := sz) (j := j) (t := t) t0 m0 f0 k0 (by omega) (fun h1 v g1 => ?_)
  have e1 : ¬ jh_I h1 11 0 4 = 0 := by rw [g1.2.2.2.1]; exact (by decide)
  have m1 := jT_mc_ft g1 m0
  have b1 : jh_I h1 11 0 44 = nI β := (g1.2.2.1 44 (by decide) (by decide)).trans b0
  refine jr_last (len := 24) rfl rfl rfl (by omega) ?_
  refine jr_aload rfl rfl ?_
  refine jr_aload rfl rfl ?_
  refine jr_lc rfl ?_
  refine jr_cv1 (mc' := 0) (ms' := 0) rfl jm_MD_isWord_n jm_MD_isWord_f rfl rfl rfl rfl rfl rfl rfl (Nat.zero_le _) (Nat.zero_le _) ?_
  refine eM_isWord (B := B) (sz := sz) (t := t) m1 (i := 13) (by decide) jT_W13 ?_
  refine jr_cv1 (mc' := 0) (ms' := 0) rfl jm_MD_must_n jm_MD_must_f rfl rfl rfl rfl rfl rfl rfl (Nat.zero_le _) (Nat.zero_le _) ?_
  refine eM_must_b e1 ?_
  refine jr_aload rfl rfl ?_
  refine jr_getR rfl rfl rfl rfl (Or.inl rfl) ?_
  refine jr_iload rfl rfl ?_
  refine jr_aload rfl rfl ?_
  refine jr_aload rfl rfl ?_
  refine jr_cv0 (mc' := 0) (ms' := 0) rfl jm_MD_personHere_n jm_MD_personHere_f rfl rfl rfl rfl rfl rfl rfl (Nat.zero_le _) (Nat.zero_le _) ?_
  show jx_W (jm_MD_personHere, _, _, _, _, _, _) _ 0 0 0 [some _] [] _
  refine jr_aload rfl rfl ?_
  refine jr_aload rfl rfl ?_
  refine jr_getR rfl rfl rfl rfl (Or.inl rfl) ?_
  refine jr_ic rfl ?_
  refine jr_aload rfl rfl ?_
  refine jr_getI rfl rfl ?_
  refine jr_imul rfl ?_
  refine jr_aload rfl rfl ?_
  refine jr_getR rfl rfl rfl rfl (Or.inl rfl) ?_
  refine jr_aload rfl rfl ?_
  refine jr_getI rfl rfl ?_
  refine jr_iald (len := 2) rfl rfl (by first | exact b1) (by omega) ?_
  rw [show jh_I (ju_L (h1) 92 0 (vp_updL (jh_L (h1) 92 0) ((12 * β + V 0 2)) (v))) 11 0 44 = nI β from b1, show jh_I (ju_L (h1) 92 0 (vp_updL (jh_L (h1) 92 0) ((12 * β + V 0 2)) (v))) 67 0 β = nI (V 0 1) from (congrFun (g1.1 67 0 (by decide)) β).trans p1, show (5 : Int32) * nI β = nI (5 * β) from jn_mul rfl rfl]
  refine jr_cv3 (mc' := 0) (ms' := 0) rfl jm_MD_here_n jm_MD_here_f rfl rfl rfl rfl rfl rfl rfl (Nat.zero_le _) (Nat.zero_le _) ?_
  refine eM_here_p (B := B) (sz := sz) (t := t) m1 hβ hWp (fun j hj => (congrFun (congrFun (congrFun (congrArg (·.1) g1.2.1) 91) 0) _).trans ((p2 j hj).2)) (by omega) ?_
  refine jr_iret rfl rfl (Nat.zero_le _) (Nat.zero_le _) ?_
  refine jr_cv1 (mc' := 0) (ms' := 0) rfl jm_MD_told_n jm_MD_told_f rfl rfl rfl rfl rfl rfl rfl (Nat.zero_le _) (Nat.zero_le _) ?_
  refine eM_told_b e1 ?_
  refine jr_iast (len := 24) rfl rfl rfl (by omega) ?_
  refine jr_aload rfl rfl ?_
  refine jr_cv0 (mc' := 0) (ms' := 0) rfl jm_MD_isGood_n jm_MD_isGood_f rfl rfl rfl rfl rfl rfl rfl (Nat.zero_le _) (Nat.zero_le _) ?_
  show jx_W (jm_MD_isGood, _, _, _, _, _, _) _ 0 0 0 [some _] [] _
  refine jr_aload rfl rfl ?_
  refine jr_getI rfl rfl ?_
  refine jr_if_ne rfl (fun _ => ?_) (fun z => absurd z e1)
  refine jr_ic rfl ?_
  refine jr_zret rfl rfl rfl (Nat.zero_le _) (Nat.zero_le _) ?_
  refine jr_if_eq rfl (fun _ => ?_) (fun z => absurd (by decide) z)
  refine jr_aload rfl rfl ?_
  refine jr_aload rfl rfl ?_
  refine jr_lc rfl ?_
  refine jr_cv1 (mc' := 0) (ms' := 0) rfl jm_MD_isWord_n jm_MD_isWord_f rfl rfl rfl rfl rfl rfl rfl (Nat.zero_le _) (Nat.zero_le _) ?_
  refine eM_isWord (B := B) (sz := sz) (t := t) m1 (i := 8) (by decide) jT_W8 ?_
  refine jr_cv1 (mc' := 0) (ms' := 0) rfl jm_MD_must_n jm_MD_must_f rfl rfl rfl rfl rfl rfl rfl (Nat.zero_le _) (Nat.zero_le _) ?_
  refine eM_must_b e1 ?_
  refine jr_aload rfl rfl ?_
  refine jr_getR rfl rfl rfl rfl (Or.inl rfl) ?_
  refine jr_iload rfl rfl ?_
  refine jr_aload rfl rfl ?_
  refine jr_aload rfl rfl ?_
  refine jr_cv0 (mc' := 0) (ms' := 0) rfl jm_MD_personHere_n jm_MD_personHere_f rfl rfl rfl rfl rfl rfl rfl (Nat.zero_le _) (Nat.zero_le _) ?_
  show jx_W (jm_MD_personHere, _, _, _, _, _, _) _ 0 0 0 [some _] [] _
  refine jr_aload rfl rfl ?_
  refine jr_aload rfl rfl ?_
  refine jr_getR rfl rfl rfl rfl (Or.inl rfl) ?_
  refine jr_ic rfl ?_
  refine jr_aload rfl rfl ?_
  refine jr_getI rfl rfl ?_
  refine jr_imul rfl ?_
  refine jr_aload rfl rfl ?_
  refine jr_getR rfl rfl rfl rfl (Or.inl rfl) ?_
  refine jr_aload rfl rfl ?_
  refine jr_getI rfl rfl ?_
  refine jr_iald (len := 2) rfl rfl (by first | exact b1) (by omega) ?_
  rw [show jh_I (ju_I (ju_L (h1) 92 0 (vp_updL (jh_L (h1) 92 0) ((12 * β + V 0 2)) (v))) 73 0 (upd (jh_I (ju_L (h1) 92 0 (vp_updL (jh_L (h1) 92 0) ((12 * β + V 0 2)) (v))) 73 0) ((12 * β + V 0 2)) (0))) 11 0 44 = nI β from b1, show jh_I (ju_I (ju_L (h1) 92 0 (vp_updL (jh_L (h1) 92 0) ((12 * β + V 0 2)) (v))) 73 0 (upd (jh_I (ju_L (h1) 92 0 (vp_updL (jh_L (h1) 92 0) ((12 * β + V 0 2)) (v))) 73 0) ((12 * β + V 0 2)) (0))) 67 0 β = nI (V 0 1) from (congrFun (g1.1 67 0 (by decide)) β).trans p1, show (5 : Int32) * nI β = nI (5 * β) from jn_mul rfl rfl]
  refine jr_cv3 (mc' := 0) (ms' := 0) rfl jm_MD_here_n jm_MD_here_f rfl rfl rfl rfl rfl rfl rfl (Nat.zero_le _) (Nat.zero_le _) ?_
  refine eM_here_p (B := B) (sz := sz) (t := t) m1 hβ hWp (fun j hj => (congrFun (congrFun (congrFun (congrArg (·.1) g1.2.1) 91) 0) _).trans ((p2 j hj).2)) (by omega) ?_
  refine jr_iret rfl rfl (Nat.zero_le _) (Nat.zero_le _) ?_
  refine jr_cv1 (mc' := 0) (ms' := 0) rfl jm_MD_told_n jm_MD_told_f rfl rfl rfl rfl rfl rfl rfl (Nat.zero_le _) (Nat.zero_le _) ?_
  refine eM_told_b e1 ?_
  refine jr_iast (len := 24) rfl rfl rfl (by omega) ?_
  refine jr_aload rfl rfl ?_
  refine jr_cv0 (mc' := 0) (ms' := 0) rfl jm_MD_isGood_n jm_MD_isGood_f rfl rfl rfl rfl rfl rfl rfl (Nat.zero_le _) (Nat.zero_le _) ?_
  show jx_W (jm_MD_isGood, _, _, _, _, _, _) _ 0 0 0 [some _] [] _
  refine jr_aload rfl rfl ?_
  refine jr_getI rfl rfl ?_
  refine jr_if_ne rfl (fun _ => ?_) (fun z => absurd z e1)
  refine jr_ic rfl ?_
  refine jr_zret rfl rfl rfl (Nat.zero_le _) (Nat.zero_le _) ?_
  refine jr_if_eq rfl (fun _ => ?_) (fun z => absurd (by decide) z)
  refine jr_aload rfl rfl ?_
  refine jr_cv0 (mc' := 0) (ms' := 0) rfl jm_MD_isGood_n jm_MD_isGood_f rfl rfl rfl rfl rfl rfl rfl (Nat.zero_le _) (Nat.zero_le _) ?_
  show jx_W (jm_MD_isGood, _, _, _, _, _, _) _ 0 0 0 [some _] [] _
  refine jr_aload rfl rfl ?_
  refine jr_getI rfl rfl ?_
  refine jr_if_ne rfl (fun _ => ?_) (fun z => absurd z e1)
  refine jr_ic rfl ?_
  refine jr_zret rfl rfl rfl (Nat.zero_le _) (Nat.zero_le _) ?_
  refine jr_if_eq rfl (fun _ => ?_) (fun z => absurd (by decide) z)
  refine jr_aload rfl rfl ?_
  refine jr_getR rfl rfl rfl rfl (Or.inl rfl) ?_
  refine jr_iload rfl rfl ?_
  refine jr_aload rfl rfl ?_
  refine jr_lc rfl ?_
  refine jr_ic rfl ?_
  refine jr_ic rfl ?_
  refine jr_cv3 (mc' := 0) (ms' := 0) rfl jm_MD_after_n jm_MD_after_f rfl rfl rfl rfl rfl rfl rfl (Nat.zero_le _) (Nat.zero_le _) ?_
  show jx_W (jm_MD_after, _, _, _, _, _, _) _ 0 0 0 [some _, some _, none, some _, some _] [] _
  refine jr_aload rfl rfl ?_
  refine jr_aload rfl rfl ?_
  refine jr_lload rfl rfl ?_
  refine jr_cv1 (mc' := 0) (ms' := 0) rfl jm_MD_isWord_n jm_MD_isWord_f rfl rfl rfl rfl rfl rfl rfl (Nat.zero_le _) (Nat.zero_le _) ?_
  refine eM_isWord (B := B) (sz := sz) (t := t) m1 (i := 14) (by decide) jT_W14 ?_
  refine jr_cv1 (mc' := 0) (ms' := 0) rfl jm_MD_must_n jm_MD_must_f rfl rfl rfl rfl rfl rfl rfl (Nat.zero_le _) (Nat.zero_le _) ?_
  refine eM_must_b e1 ?_
  refine jr_aload rfl rfl ?_
  refine jr_iload rfl rfl ?_
  refine jr_iload rfl rfl ?_
  refine jr_cv2 (mc' := 0) (ms' := 0) rfl jm_MD_numeral_n jm_MD_numeral_f rfl rfl rfl rfl rfl rfl rfl (Nat.zero_le _) (Nat.zero_le _) ?_
  refine eM_num_b (lo := 1) (hi := 99) e1 ?_
  refine jr_iret rfl rfl (Nat.zero_le _) (Nat.zero_le _) ?_
  refine jr_iast (len := 24) rfl rfl rfl (by omega) ?_
  refine jr_aload rfl rfl ?_
  refine jr_getR rfl rfl rfl rfl (Or.inl rfl) ?_
  refine jr_iload rfl rfl ?_
  refine jr_aload rfl rfl ?_
  refine jr_lc rfl ?_
  refine jr_ic rfl ?_
  refine jr_ic rfl ?_
  refine jr_cv3 (mc' := 0) (ms' := 0) rfl jm_MD_after_n jm_MD_after_f rfl rfl rfl rfl rfl rfl rfl (Nat.zero_le _) (Nat.zero_le _) ?_
  show jx_W (jm_MD_after, _, _, _, _, _, _) _ 0 0 0 [some _, some _, none, some _, some _] [] _
  refine jr_aload rfl rfl ?_
  refine jr_aload rfl rfl ?_
  refine jr_lload rfl rfl ?_
  refine jr_cv1 (mc' := 0) (ms' := 0) rfl jm_MD_isWord_n jm_MD_isWord_f rfl rfl rfl rfl rfl rfl rfl (Nat.zero_le _) (Nat.zero_le _) ?_
  refine eM_isWord (B := B) (sz := sz) (t := t) m1 (i := 15) (by decide) jT_W15 ?_
  refine jr_cv1 (mc' := 0) (ms' := 0) rfl jm_MD_must_n jm_MD_must_f rfl rfl rfl rfl rfl rfl rfl (Nat.zero_le _) (Nat.zero_le _) ?_
  refine eM_must_b e1 ?_
  refine jr_aload rfl rfl ?_
  refine jr_iload rfl rfl ?_
  refine jr_iload rfl rfl ?_
  refine jr_cv2 (mc' := 0) (ms' := 0) rfl jm_MD_numeral_n jm_MD_numeral_f rfl rfl rfl rfl rfl rfl rfl (Nat.zero_le _) (Nat.zero_le _) ?_
  refine eM_num_b (lo := 1) (hi := 31) e1 ?_
  refine jr_iret rfl rfl (Nat.zero_le _) (Nat.zero_le _) ?_
  refine jr_iast (len := 24) rfl rfl rfl (by omega) ?_
  refine jr_aload rfl rfl ?_
  refine jr_aload rfl rfl ?_
  refine jr_lc rfl ?_
  refine jr_cv1 (mc' := 0) (ms' := 0) rfl jm_MD_isWord_n jm_MD_isWord_f rfl rfl rfl rfl rfl rfl rfl (Nat.zero_le _) (Nat.zero_le _) ?_
  refine eM_isWord (B := B) (sz := sz) (t := t) m1 (i := 16) (by decide) jT_W16 ?_
  refine jr_cv1 (mc' := 0) (ms' := 0) rfl jm_MD_must_n jm_MD_must_f rfl rfl rfl rfl rfl rfl rfl (Nat.zero_le _) (Nat.zero_le _) ?_
  refine eM_must_b e1 ?_
  refine jr_aload rfl rfl ?_
  refine jr_getR rfl rfl rfl rfl (Or.inl rfl) ?_
  refine jr_iload rfl rfl ?_
  refine jr_aload rfl rfl ?_
  refine jr_aload rfl rfl ?_
  refine jr_aload rfl rfl ?_
  refine jr_getR rfl rfl rfl rfl (Or.inl rfl) ?_
  refine jr_ic rfl ?_
  refine jr_aload rfl rfl ?_
  refine jr_getI rfl rfl ?_
  refine jr_imul rfl ?_
  refine jr_aload rfl rfl ?_
  refine jr_getR rfl rfl rfl rfl (Or.inl rfl) ?_
  refine jr_aload rfl rfl ?_
  refine jr_getI rfl rfl ?_
  refine jr_iald (len := 2) rfl rfl b1 (by omega) ?_
  rw [show jh_I (ju_I (ju_I (ju_I (ju_I (ju_L (h1) 92 0 (vp_updL (jh_L (h1) 92 0) ((12 * β + V 0 2)) (v))) 73 0 (upd (jh_I (ju_L (h1) 92 0 (vp_updL (jh_L (h1) 92 0) ((12 * β + V 0 2)) (v))) 73 0) ((12 * β + V 0 2)) (0))) 74 0 (upd (jh_I (ju_I (ju_L (h1) 92 0 (vp_updL (jh_L (h1) 92 0) ((12 * β + V 0 2)) (v))) 73 0 (upd (jh_I (ju_L (h1) 92 0 (vp_updL (jh_L (h1) 92 0) ((12 * β + V 0 2)) (v))) 73 0) ((12 * β + V 0 2)) (0))) 74 0) ((12 * β + V 0 2)) (0))) 75 0 (upd (jh_I (ju_I (ju_I (ju_L (h1) 92 0 (vp_updL (jh_L (h1) 92 0) ((12 * β + V 0 2)) (v))) 73 0 (upd (jh_I (ju_L (h1) 92 0 (vp_updL (jh_L (h1) 92 0) ((12 * β + V 0 2)) (v))) 73 0) ((12 * β + V 0 2)) (0))) 74 0 (upd (jh_I (ju_I (ju_L (h1) 92 0 (vp_updL (jh_L (h1) 92 0) ((12 * β + V 0 2)) (v))) 73 0 (upd (jh_I (ju_L (h1) 92 0 (vp_updL (jh_L (h1) 92 0) ((12 * β + V 0 2)) (v))) 73 0) ((12 * β + V 0 2)) (0))) 74 0) ((12 * β + V 0 2)) (0))) 75 0) ((12 * β + V 0 2)) (nI 1))) 76 0 (upd (jh_I (ju_I (ju_I (ju_I (ju_L (h1) 92 0 (vp_updL (jh_L (h1) 92 0) ((12 * β + V 0 2)) (v))) 73 0 (upd (jh_I (ju_L (h1) 92 0 (vp_updL (jh_L (h1) 92 0) ((12 * β + V 0 2)) (v))) 73 0) ((12 * β + V 0 2)) (0))) 74 0 (upd (jh_I (ju_I (ju_L (h1) 92 0 (vp_updL (jh_L (h1) 92 0) ((12 * β + V 0 2)) (v))) 73 0 (upd (jh_I (ju_L (h1) 92 0 (vp_updL (jh_L (h1) 92 0) ((12 * β + V 0 2)) (v))) 73 0) ((12 * β + V 0 2)) (0))) 74 0) ((12 * β + V 0 2)) (0))) 75 0 (upd (jh_I (ju_I (ju_I (ju_L (h1) 92 0 (vp_updL (jh_L (h1) 92 0) ((12 * β + V 0 2)) (v))) 73 0 (upd (jh_I (ju_L (h1) 92 0 (vp_updL (jh_L (h1) 92 0) ((12 * β + V 0 2)) (v))) 73 0) ((12 * β + V 0 2)) (0))) 74 0 (upd (jh_I (ju_I (ju_L (h1) 92 0 (vp_updL (jh_L (h1) 92 0) ((12 * β + V 0 2)) (v))) 73 0 (upd (jh_I (ju_L (h1) 92 0 (vp_updL (jh_L (h1) 92 0) ((12 * β + V 0 2)) (v))) 73 0) ((12 * β + V 0 2)) (0))) 74 0) ((12 * β + V 0 2)) (0))) 75 0) ((12 * β + V 0 2)) (nI 1))) 76 0) ((12 * β + V 0 2)) (nI 1))) 11 0 44 = nI β from b1, show jh_I (ju_I (ju_I (ju_I (ju_I (ju_L (h1) 92 0 (vp_updL (jh_L (h1) 92 0) ((12 * β + V 0 2)) (v))) 73 0 (upd (jh_I (ju_L (h1) 92 0 (vp_updL (jh_L (h1) 92 0) ((12 * β + V 0 2)) (v))) 73 0) ((12 * β + V 0 2)) (0))) 74 0 (upd (jh_I (ju_I (ju_L (h1) 92 0 (vp_updL (jh_L (h1) 92 0) ((12 * β + V 0 2)) (v))) 73 0 (upd (jh_I (ju_L (h1) 92 0 (vp_updL (jh_L (h1) 92 0) ((12 * β + V 0 2)) (v))) 73 0) ((12 * β + V 0 2)) (0))) 74 0) ((12 * β + V 0 2)) (0))) 75 0 (upd (jh_I (ju_I (ju_I (ju_L (h1) 92 0 (vp_updL (jh_L (h1) 92 0) ((12 * β + V 0 2)) (v))) 73 0 (upd (jh_I (ju_L (h1) 92 0 (vp_updL (jh_L (h1) 92 0) ((12 * β + V 0 2)) (v))) 73 0) ((12 * β + V 0 2)) (0))) 74 0 (upd (jh_I (ju_I (ju_L (h1) 92 0 (vp_updL (jh_L (h1) 92 0) ((12 * β + V 0 2)) (v))) 73 0 (upd (jh_I (ju_L (h1) 92 0 (vp_updL (jh_L (h1) 92 0) ((12 * β + V 0 2)) (v))) 73 0) ((12 * β + V 0 2)) (0))) 74 0) ((12 * β + V 0 2)) (0))) 75 0) ((12 * β + V 0 2)) (nI 1))) 76 0 (upd (jh_I (ju_I (ju_I (ju_I (ju_L (h1) 92 0 (vp_updL (jh_L (h1) 92 0) ((12 * β + V 0 2)) (v))) 73 0 (upd (jh_I (ju_L (h1) 92 0 (vp_updL (jh_L (h1) 92 0) ((12 * β + V 0 2)) (v))) 73 0) ((12 * β + V 0 2)) (0))) 74 0 (upd (jh_I (ju_I (ju_L (h1) 92 0 (vp_updL (jh_L (h1) 92 0) ((12 * β + V 0 2)) (v))) 73 0 (upd (jh_I (ju_L (h1) 92 0 (vp_updL (jh_L (h1) 92 0) ((12 * β + V 0 2)) (v))) 73 0) ((12 * β + V 0 2)) (0))) 74 0) ((12 * β + V 0 2)) (0))) 75 0 (upd (jh_I (ju_I (ju_I (ju_L (h1) 92 0 (vp_updL (jh_L (h1) 92 0) ((12 * β + V 0 2)) (v))) 73 0 (upd (jh_I (ju_L (h1) 92 0 (vp_updL (jh_L (h1) 92 0) ((12 * β + V 0 2)) (v))) 73 0) ((12 * β + V 0 2)) (0))) 74 0 (upd (jh_I (ju_I (ju_L (h1) 92 0 (vp_updL (jh_L (h1) 92 0) ((12 * β + V 0 2)) (v))) 73 0 (upd (jh_I (ju_L (h1) 92 0 (vp_updL (jh_L (h1) 92 0) ((12 * β + V 0 2)) (v))) 73 0) ((12 * β + V 0 2)) (0))) 74 0) ((12 * β + V 0 2)) (0))) 75 0) ((12 * β + V 0 2)) (nI 1))) 76 0) ((12 * β + V 0 2)) (nI 1))) 66 0 β = nI (V 0 0) from (congrFun (g1.1 66 0 (by decide)) β).trans a1, show (6 : Int32) * nI β = nI (6 * β) from jn_mul rfl rfl]
  refine jr_cv3 (mc' := 0) (ms' := 0) rfl jm_MD_here_n jm_MD_here_f rfl rfl rfl rfl rfl rfl rfl (Nat.zero_le _) (Nat.zero_le _) ?_
  refine eM_here_m (B := B) (sz := sz) (t := t) m1 hβ hWm (fun j hj => (congrFun (congrFun (congrFun (congrArg (·.1) g1.2.1) 90) 0) _).trans ((a2 j hj).2.2)) (by omega) ?_
  refine jr_cv1 (mc' := 0) (ms' := 0) rfl jm_MD_told_n jm_MD_told_f rfl rfl rfl rfl rfl rfl rfl (Nat.zero_le _) (Nat.zero_le _) ?_
  refine eM_told_b e1 ?_
  refine jr_iast (len := 24) rfl rfl rfl (by omega) ?_
  refine jr_aload rfl rfl ?_
  refine jr_cv0 (mc' := 0) (ms' := 0) rfl jm_MD_isGood_n jm_MD_isGood_f rfl rfl rfl rfl rfl rfl rfl (Nat.zero_le _) (Nat.zero_le _) ?_
  show jx_W (jm_MD_isGood, _, _, _, _, _, _) _ 0 0 0 [some _] [] _
  refine jr_aload rfl rfl ?_
  refine jr_getI rfl rfl ?_
  refine jr_if_ne rfl (fun _ => ?_) (fun z => absurd z e1)
  refine jr_ic rfl ?_
  refine jr_zret rfl rfl rfl (Nat.zero_le _) (Nat.zero_le _) ?_
  refine jr_if_eq rfl (fun _ => ?_) (fun z => absurd (by decide) z)
  refine jr_aload rfl rfl ?_
  refine jr_getR rfl rfl rfl rfl (Or.inl rfl) ?_
  refine jr_iload rfl rfl ?_
  refine jr_aload rfl rfl ?_
  refine jr_lc rfl ?_
  refine jr_cv1 (mc' := 0) (ms' := 0) rfl jm_MD_has_n jm_MD_has_f rfl rfl rfl rfl rfl rfl rfl (Nat.zero_le _) (Nat.zero_le _) ?_
  refine eM_has_b e1 ?_
  refine jr_zast (len := 24) rfl rfl rfl (by omega) ?_
  refine jr_aload rfl rfl ?_
  refine jr_getR rfl rfl rfl rfl (Or.inl rfl) ?_
  refine jr_aload rfl rfl ?_
  refine jr_getI rfl rfl ?_
  refine jr_dup2 rfl ?_
  refine jr_iald (len := 2) rfl rfl b1 (by omega) ?_
  refine jr_ic rfl ?_
  refine jr_iadd rfl ?_
  rw [show jh_I (ju_I (ju_I (ju_I (ju_I (ju_I (ju_I (ju_L (h1) 92 0 (vp_updL (jh_L (h1) 92 0) ((12 * β + V 0 2)) (v))) 73 0 (upd (jh_I (ju_L (h1) 92 0 (vp_updL (jh_L (h1) 92 0) ((12 * β + V 0 2)) (v))) 73 0) ((12 * β + V 0 2)) (0))) 74 0 (upd (jh_I (ju_I (ju_L (h1) 92 0 (vp_updL (jh_L (h1) 92 0) ((12 * β + V 0 2)) (v))) 73 0 (upd (jh_I (ju_L (h1) 92 0 (vp_updL (jh_L (h1) 92 0) ((12 * β + V 0 2)) (v))) 73 0) ((12 * β + V 0 2)) (0))) 74 0) ((12 * β + V 0 2)) (0))) 75 0 (upd (jh_I (ju_I (ju_I (ju_L (h1) 92 0 (vp_updL (jh_L (h1) 92 0) ((12 * β + V 0 2)) (v))) 73 0 (upd (jh_I (ju_L (h1) 92 0 (vp_updL (jh_L (h1) 92 0) ((12 * β + V 0 2)) (v))) 73 0) ((12 * β + V 0 2)) (0))) 74 0 (upd (jh_I (ju_I (ju_L (h1) 92 0 (vp_updL (jh_L (h1) 92 0) ((12 * β + V 0 2)) (v))) 73 0 (upd (jh_I (ju_L (h1) 92 0 (vp_updL (jh_L (h1) 92 0) ((12 * β + V 0 2)) (v))) 73 0) ((12 * β + V 0 2)) (0))) 74 0) ((12 * β + V 0 2)) (0))) 75 0) ((12 * β + V 0 2)) (nI 1))) 76 0 (upd (jh_I (ju_I (ju_I (ju_I (ju_L (h1) 92 0 (vp_updL (jh_L (h1) 92 0) ((12 * β + V 0 2)) (v))) 73 0 (upd (jh_I (ju_L (h1) 92 0 (vp_updL (jh_L (h1) 92 0) ((12 * β + V 0 2)) (v))) 73 0) ((12 * β + V 0 2)) (0))) 74 0 (upd (jh_I (ju_I (ju_L (h1) 92 0 (vp_updL (jh_L (h1) 92 0) ((12 * β + V 0 2)) (v))) 73 0 (upd (jh_I (ju_L (h1) 92 0 (vp_updL (jh_L (h1) 92 0) ((12 * β + V 0 2)) (v))) 73 0) ((12 * β + V 0 2)) (0))) 74 0) ((12 * β + V 0 2)) (0))) 75 0 (upd (jh_I (ju_I (ju_I (ju_L (h1) 92 0 (vp_updL (jh_L (h1) 92 0) ((12 * β + V 0 2)) (v))) 73 0 (upd (jh_I (ju_L (h1) 92 0 (vp_updL (jh_L (h1) 92 0) ((12 * β + V 0 2)) (v))) 73 0) ((12 * β + V 0 2)) (0))) 74 0 (upd (jh_I (ju_I (ju_L (h1) 92 0 (vp_updL (jh_L (h1) 92 0) ((12 * β + V 0 2)) (v))) 73 0 (upd (jh_I (ju_L (h1) 92 0 (vp_updL (jh_L (h1) 92 0) ((12 * β + V 0 2)) (v))) 73 0) ((12 * β + V 0 2)) (0))) 74 0) ((12 * β + V 0 2)) (0))) 75 0) ((12 * β + V 0 2)) (nI 1))) 76 0) ((12 * β + V 0 2)) (nI 1))) 77 0 (upd (jh_I (ju_I (ju_I (ju_I (ju_I (ju_L (h1) 92 0 (vp_updL (jh_L (h1) 92 0) ((12 * β + V 0 2)) (v))) 73 0 (upd (jh_I (ju_L (h1) 92 0 (vp_updL (jh_L (h1) 92 0) ((12 * β + V 0 2)) (v))) 73 0) ((12 * β + V 0 2)) (0))) 74 0 (upd (jh_I (ju_I (ju_L (h1) 92 0 (vp_updL (jh_L (h1) 92 0) ((12 * β + V 0 2)) (v))) 73 0 (upd (jh_I (ju_L (h1) 92 0 (vp_updL (jh_L (h1) 92 0) ((12 * β + V 0 2)) (v))) 73 0) ((12 * β + V 0 2)) (0))) 74 0) ((12 * β + V 0 2)) (0))) 75 0 (upd (jh_I (ju_I (ju_I (ju_L (h1) 92 0 (vp_updL (jh_L (h1) 92 0) ((12 * β + V 0 2)) (v))) 73 0 (upd (jh_I (ju_L (h1) 92 0 (vp_updL (jh_L (h1) 92 0) ((12 * β + V 0 2)) (v))) 73 0) ((12 * β + V 0 2)) (0))) 74 0 (upd (jh_I (ju_I (ju_L (h1) 92 0 (vp_updL (jh_L (h1) 92 0) ((12 * β + V 0 2)) (v))) 73 0 (upd (jh_I (ju_L (h1) 92 0 (vp_updL (jh_L (h1) 92 0) ((12 * β + V 0 2)) (v))) 73 0) ((12 * β + V 0 2)) (0))) 74 0) ((12 * β + V 0 2)) (0))) 75 0) ((12 * β + V 0 2)) (nI 1))) 76 0 (upd (jh_I (ju_I (ju_I (ju_I (ju_L (h1) 92 0 (vp_updL (jh_L (h1) 92 0) ((12 * β + V 0 2)) (v))) 73 0 (upd (jh_I (ju_L (h1) 92 0 (vp_updL (jh_L (h1) 92 0) ((12 * β + V 0 2)) (v))) 73 0) ((12 * β + V 0 2)) (0))) 74 0 (upd (jh_I (ju_I (ju_L (h1) 92 0 (vp_updL (jh_L (h1) 92 0) ((12 * β + V 0 2)) (v))) 73 0 (upd (jh_I (ju_L (h1) 92 0 (vp_updL (jh_L (h1) 92 0) ((12 * β + V 0 2)) (v))) 73 0) ((12 * β + V 0 2)) (0))) 74 0) ((12 * β + V 0 2)) (0))) 75 0 (upd (jh_I (ju_I (ju_I (ju_L (h1) 92 0 (vp_updL (jh_L (h1) 92 0) ((12 * β + V 0 2)) (v))) 73 0 (upd (jh_I (ju_L (h1) 92 0 (vp_updL (jh_L (h1) 92 0) ((12 * β + V 0 2)) (v))) 73 0) ((12 * β + V 0 2)) (0))) 74 0 (upd (jh_I (ju_I (ju_L (h1) 92 0 (vp_updL (jh_L (h1) 92 0) ((12 * β + V 0 2)) (v))) 73 0 (upd (jh_I (ju_L (h1) 92 0 (vp_updL (jh_L (h1) 92 0) ((12 * β + V 0 2)) (v))) 73 0) ((12 * β + V 0 2)) (0))) 74 0) ((12 * β + V 0 2)) (0))) 75 0) ((12 * β + V 0 2)) (nI 1))) 76 0) ((12 * β + V 0 2)) (nI 1))) 77 0) ((12 * β + V 0 2)) (0))) 84 0 (upd (jh_I (ju_I (ju_I (ju_I (ju_I (ju_I (ju_L (h1) 92 0 (vp_updL (jh_L (h1) 92 0) ((12 * β + V 0 2)) (v))) 73 0 (upd (jh_I (ju_L (h1) 92 0 (vp_updL (jh_L (h1) 92 0) ((12 * β + V 0 2)) (v))) 73 0) ((12 * β + V 0 2)) (0))) 74 0 (upd (jh_I (ju_I (ju_L (h1) 92 0 (vp_updL (jh_L (h1) 92 0) ((12 * β + V 0 2)) (v))) 73 0 (upd (jh_I (ju_L (h1) 92 0 (vp_updL (jh_L (h1) 92 0) ((12 * β + V 0 2)) (v))) 73 0) ((12 * β + V 0 2)) (0))) 74 0) ((12 * β + V 0 2)) (0))) 75 0 (upd (jh_I (ju_I (ju_I (ju_L (h1) 92 0 (vp_updL (jh_L (h1) 92 0) ((12 * β + V 0 2)) (v))) 73 0 (upd (jh_I (ju_L (h1) 92 0 (vp_updL (jh_L (h1) 92 0) ((12 * β + V 0 2)) (v))) 73 0) ((12 * β + V 0 2)) (0))) 74 0 (upd (jh_I (ju_I (ju_L (h1) 92 0 (vp_updL (jh_L (h1) 92 0) ((12 * β + V 0 2)) (v))) 73 0 (upd (jh_I (ju_L (h1) 92 0 (vp_updL (jh_L (h1) 92 0) ((12 * β + V 0 2)) (v))) 73 0) ((12 * β + V 0 2)) (0))) 74 0) ((12 * β + V 0 2)) (0))) 75 0) ((12 * β + V 0 2)) (nI 1))) 76 0 (upd (jh_I (ju_I (ju_I (ju_I (ju_L (h1) 92 0 (vp_updL (jh_L (h1) 92 0) ((12 * β + V 0 2)) (v))) 73 0 (upd (jh_I (ju_L (h1) 92 0 (vp_updL (jh_L (h1) 92 0) ((12 * β + V 0 2)) (v))) 73 0) ((12 * β + V 0 2)) (0))) 74 0 (upd (jh_I (ju_I (ju_L (h1) 92 0 (vp_updL (jh_L (h1) 92 0) ((12 * β + V 0 2)) (v))) 73 0 (upd (jh_I (ju_L (h1) 92 0 (vp_updL (jh_L (h1) 92 0) ((12 * β + V 0 2)) (v))) 73 0) ((12 * β + V 0 2)) (0))) 74 0) ((12 * β + V 0 2)) (0))) 75 0 (upd (jh_I (ju_I (ju_I (ju_L (h1) 92 0 (vp_updL (jh_L (h1) 92 0) ((12 * β + V 0 2)) (v))) 73 0 (upd (jh_I (ju_L (h1) 92 0 (vp_updL (jh_L (h1) 92 0) ((12 * β + V 0 2)) (v))) 73 0) ((12 * β + V 0 2)) (0))) 74 0 (upd (jh_I (ju_I (ju_L (h1) 92 0 (vp_updL (jh_L (h1) 92 0) ((12 * β + V 0 2)) (v))) 73 0 (upd (jh_I (ju_L (h1) 92 0 (vp_updL (jh_L (h1) 92 0) ((12 * β + V 0 2)) (v))) 73 0) ((12 * β + V 0 2)) (0))) 74 0) ((12 * β + V 0 2)) (0))) 75 0) ((12 * β + V 0 2)) (nI 1))) 76 0) ((12 * β + V 0 2)) (nI 1))) 77 0 (upd (jh_I (ju_I (ju_I (ju_I (ju_I (ju_L (h1) 92 0 (vp_updL (jh_L (h1) 92 0) ((12 * β + V 0 2)) (v))) 73 0 (upd (jh_I (ju_L (h1) 92 0 (vp_updL (jh_L (h1) 92 0) ((12 * β + V 0 2)) (v))) 73 0) ((12 * β + V 0 2)) (0))) 74 0 (upd (jh_I (ju_I (ju_L (h1) 92 0 (vp_updL (jh_L (h1) 92 0) ((12 * β + V 0 2)) (v))) 73 0 (upd (jh_I (ju_L (h1) 92 0 (vp_updL (jh_L (h1) 92 0) ((12 * β + V 0 2)) (v))) 73 0) ((12 * β + V 0 2)) (0))) 74 0) ((12 * β + V 0 2)) (0))) 75 0 (upd (jh_I (ju_I (ju_I (ju_L (h1) 92 0 (vp_updL (jh_L (h1) 92 0) ((12 * β + V 0 2)) (v))) 73 0 (upd (jh_I (ju_L (h1) 92 0 (vp_updL (jh_L (h1) 92 0) ((12 * β + V 0 2)) (v))) 73 0) ((12 * β + V 0 2)) (0))) 74 0 (upd (jh_I (ju_I (ju_L (h1) 92 0 (vp_updL (jh_L (h1) 92 0) ((12 * β + V 0 2)) (v))) 73 0 (upd (jh_I (ju_L (h1) 92 0 (vp_updL (jh_L (h1) 92 0) ((12 * β + V 0 2)) (v))) 73 0) ((12 * β + V 0 2)) (0))) 74 0) ((12 * β + V 0 2)) (0))) 75 0) ((12 * β + V 0 2)) (nI 1))) 76 0 (upd (jh_I (ju_I (ju_I (ju_I (ju_L (h1) 92 0 (vp_updL (jh_L (h1) 92 0) ((12 * β + V 0 2)) (v))) 73 0 (upd (jh_I (ju_L (h1) 92 0 (vp_updL (jh_L (h1) 92 0) ((12 * β + V 0 2)) (v))) 73 0) ((12 * β + V 0 2)) (0))) 74 0 (upd (jh_I (ju_I (ju_L (h1) 92 0 (vp_updL (jh_L (h1) 92 0) ((12 * β + V 0 2)) (v))) 73 0 (upd (jh_I (ju_L (h1) 92 0 (vp_updL (jh_L (h1) 92 0) ((12 * β + V 0 2)) (v))) 73 0) ((12 * β + V 0 2)) (0))) 74 0) ((12 * β + V 0 2)) (0))) 75 0 (upd (jh_I (ju_I (ju_I (ju_L (h1) 92 0 (vp_updL (jh_L (h1) 92 0) ((12 * β + V 0 2)) (v))) 73 0 (upd (jh_I (ju_L (h1) 92 0 (vp_updL (jh_L (h1) 92 0) ((12 * β + V 0 2)) (v))) 73 0) ((12 * β + V 0 2)) (0))) 74 0 (upd (jh_I (ju_I (ju_L (h1) 92 0 (vp_updL (jh_L (h1) 92 0) ((12 * β + V 0 2)) (v))) 73 0 (upd (jh_I (ju_L (h1) 92 0 (vp_updL (jh_L (h1) 92 0) ((12 * β + V 0 2)) (v))) 73 0) ((12 * β + V 0 2)) (0))) 74 0) ((12 * β + V 0 2)) (0))) 75 0) ((12 * β + V 0 2)) (nI 1))) 76 0) ((12 * β + V 0 2)) (nI 1))) 77 0) ((12 * β + V 0 2)) (0))) 84 0) ((12 * β + V 0 2)) (0 &&& 1))) 68 0 β = nI (V 0 2) from (congrFun (g1.1 68 0 (by decide)) β).trans c1, show nI (V 0 2) + 1 = nI (V 0 2 + 1) from jn_S _]
  refine jr_iast (len := 2) rfl rfl b1 (by omega) ?_
  refine jr_vret rfl rfl (Nat.zero_le _) (Nat.zero_le _) ?_
  exact k _ (jMF_I (a := 68) (w := 1) (jMF_I (a := 84) (w := 12) (jMF_I (a := 77) (w := 12) (jMF_I (a := 76) (w := 12) (jMF_I (a := 75) (w := 12) (jMF_I (a := 74) (w := 12) (jMF_I (a := 73) (w := 12) (jMF_L (a := 92) (w := 12) (jMF_ft (F) g1) (by decide) (by decide) (by omega) (by omega)) (by decide) (by decide) (by omega) (by omega)) (by decide) (by decide) (by omega) (by omega)) (by decide) (by decide) (by omega) (by omega)) (by decide) (by decide) (by omega) (by omega)) (by decide) (by decide) (by omega) (by omega)) (by decide) (by decide) (by omega) (by omega)) (by decide) (by decide) (by omega) (by omega)) g1.2.2.2.1 g1.2.2.2.2

set_option maxHeartbeats 800000 in
set_option maxRecDepth 100000 in
theorem eM_due_b2 {d : Nat} {h : jx_H} {Q : Option jx_V → jx_H → Prop} {h0 : jx_H} {B : Nat → Int32} {sz β t : Nat} {V : Nat → Nat → Nat} {W : Nat → Nat → List Nat} {D : Nat → Int32} (x : jML h B sz β t V W D) (F : jMF β h0 h) (hβ : β < 2) (hn : V 0 2 < 12) (h5 : V 0 1 ≤ 5) (h6 : V 0 0 ≤ 6) (hW : jnW (W 2) (V 0 2)) (hWp : jnW (W 1) (V 0 1)) (hWm : jnW (W 0) (V 0 0)) (k0 : jT_K B sz t = 3) (n0 : jnF (W 2) (jT_wd B sz (jT_p B sz t)) (V 0 2) 0 = none) (k1 : ¬ jT_K B sz (t + 1) = 113) (k : ∀ h', jMF β h0 h' → jh_I h' 11 0 4 = jX_kd (jT_K B sz (t + 1)) → jPl h' (jT_p B sz (t + 1)) → Q none h')  : jx_Ev jm_MD_readDue (d + 8) 0 0 false 1 [jv_r 11 0] h Q := by
  show jx_W (jm_MD_readDue, d + 8, 0, 0, false, 1, _) Q 0 0 0 [some (jv_r 11 0), none] [] _
  obtain ⟨⟨t0, m0, f0, b0, -, -, -, -⟩, ⟨⟨a1, a2⟩, ⟨p1, p2⟩, ⟨c1, c2⟩, -⟩, -⟩ := id x
  have xb := b0
  have hr : ∀ j, j < V 0 2 → jh_L h 92 0 (12 * β + j) = jT_key (W 2 j) := fun j hj => (c2 j hj).2
  refine jr_ic rfl ?_
  refine jr_aload rfl rfl ?_
  refine jr_getI rfl rfl ?_
  refine jr_imul rfl ?_
  refine jr_aload rfl rfl ?_
  refine jr_getR rfl rfl rfl rfl (Or.inl rfl) ?_
  refine jr_aload rfl rfl ?_
  refine jr_getI rfl rfl ?_
  refine jr_iald (len := 2) rfl rfl b0 (by omega) ?_
  refine jr_iadd rfl ?_
  rw [xb, c1, show (12 : Int32) * nI β + nI (V 0 2) = nI (12 * β + V 0 2) from jn_add (jn_mul rfl rfl) rfl]
  refine jr_ist1 rfl rfl ?_
  refine jr_aload rfl rfl ?_
  refine jr_getR rfl rfl rfl rfl (Or.inl rfl) ?_
  refine jr_iload rfl rfl ?_
  refine jr_aload rfl rfl ?_
  refine jr_aload rfl rfl ?_
  refine jr_aload rfl rfl ?_
  refine jr_getR rfl rfl rfl rfl (Or.inl rfl) ?_
  refine jr_ic rfl ?_
  refine jr_aload rfl rfl ?_
  refine jr_getI rfl rfl ?_
  refine jr_imul rfl ?_
  refine jr_aload rfl rfl ?_
  refine jr_getR rfl rfl rfl rfl (Or.inl rfl) ?_
  refine jr_aload rfl rfl ?_
  refine jr_getI rfl rfl ?_
  refine jr_iald (len := 2) rfl rfl b0 (by omega) ?_
  rw [xb, c1, show (12 : Int32) * nI β = nI (12 * β) from jn_mul rfl rfl]
  refine jr_cv3 (mc' := 0) (ms' := 0) rfl jm_MD_here_n jm_MD_here_f rfl rfl rfl rfl rfl rfl rfl (Nat.zero_le _) (Nat.zero_le _) ?_
  refine eM_here_d m0 hβ hW hr (by omega) ?_
  rw [if_pos k0, n0]
  refine jr_cv1 (mc' := 0) (ms' := 0) rfl jm_MD_fresh_n jm_MD_fresh_f rfl rfl rfl rfl rfl rfl rfl (Nat.zero_le _) (Nat.zero_le _) ?_
  refine eM_fresh_y (B := B) (sz := sz) (t := t) t0 m0 f0 k0 (fun h1 g1 m1 => ?_)
  have t1 := jX_t_MG g1 t0
  have f1 : jh_I h1 11 0 4 = 0 := (g1.2.2.2 4 (by decide)).trans f0
  have b1 : jh_I h1 11 0 44 = nI β := (g1.2.2.2 44 (by decide)).trans b0
  refine jr_last (len := 24) rfl rfl rfl (by omega) ?_
  refine jr_aload rfl rfl ?_
  refine jr_aload rfl rfl ?_
  refine jr_lc rfl ?_
  refine jr_cv1 (mc' := 0) (ms' := 0) rfl jm_MD_isWord_n jm_MD_isWord_f rfl rfl rfl rfl rfl rfl rfl (Nat.zero_le _) (Nat.zero_le _) ?_
  refine eM_isWord (B := B) (sz := sz) (t := t + 1) m1 (i := 13) (by decide) jT_W13 ?_
  refine jr_cv1 (mc' := 0) (ms' := 0) rfl jm_MD_must_n jm_MD_must_f rfl rfl rfl rfl rfl rfl rfl (Nat.zero_le _) (Nat.zero_le _) ?_
  refine eM_must_n (B := B) (sz := sz) (t := t + 1) t1 m1 f1 (if_neg k1) (fun h2 g2 => ?_)
  have e2 : ¬ jh_I h2 11 0 4 = 0 := by rw [g2.2.2.2.1]; exact jX_kd_n _
  have m2 := jT_mc_ft g2 m1
  have b2 : jh_I h2 11 0 44 = nI β := (g2.2.2.1 44 (by decide) (by decide)).trans b1
  refine jr_aload rfl rfl ?_
  refine jr_getR rfl rfl rfl rfl (Or.inl rfl) ?_
  refine jr_iload rfl rfl ?_
  refine jr_aload rfl rfl ?_
  refine jr_aload rfl rfl ?_
  refine jr_cv0 (mc' := 0) (ms' := 0) rfl jm_MD_personHere_n jm_MD_personHere_f rfl rfl rfl rfl rfl rfl rfl (Nat.zero_le _) (Nat.zero_le _) ?_
  show jx_W (jm_MD_personHere, _, _, _, _, _, _) _ 0 0 0 [some _] [] _
  refine jr_aload rfl rfl ?_
  refine jr_aload rfl rfl ?_
  refine jr_getR rfl rfl rfl rfl (Or.inl rfl) ?_
  refine jr_ic rfl ?_
  refine jr_aload rfl rfl ?_
  refine jr_getI rfl rfl ?_
  refine jr_imul rfl ?_
  refine jr_aload rfl rfl ?_
  refine jr_getR rfl rfl rfl rfl (Or.inl rfl) ?_
  refine jr_aload rfl rfl ?_
  refine jr_getI rfl rfl ?_
  refine jr_iald (len := 2) rfl rfl (by first | exact b2) (by omega) ?_
  rw [show jh_I (h2) 11 0 44 = nI β from b2, show jh_I (h2) 67 0 β = nI (V 0 1) from (congrFun ((g2.1 67 0 (by decide)).trans (g1.1 67 0 (by decide))) β).trans p1, show (5 : Int32) * nI β = nI (5 * β) from jn_mul rfl rfl]
  refine jr_cv3 (mc' := 0) (ms' := 0) rfl jm_MD_here_n jm_MD_here_f rfl rfl rfl rfl rfl rfl rfl (Nat.zero_le _) (Nat.zero_le _) ?_
  refine eM_here_p (B := B) (sz := sz) (t := t + 1) m2 hβ hWp (fun j hj => (congrFun ((congrFun (congrFun (congrArg (·.1) g2.2.1) 91) 0).trans (g1.2.1 91 0 (by decide))) _).trans ((p2 j hj).2)) (by omega) ?_
  refine jr_iret rfl rfl (Nat.zero_le _) (Nat.zero_le _) ?_
  refine jr_cv1 (mc' := 0) (ms' := 0) rfl jm_MD_told_n jm_MD_told_f rfl rfl rfl rfl rfl rfl rfl (Nat.zero_le _) (Nat.zero_le _) ?_
  refine eM_told_b e2 ?_
  refine jr_iast (len := 24) rfl rfl rfl (by omega) ?_
  refine jr_aload rfl rfl ?_
  refine jr_cv0 (mc' := 0) (ms' := 0) rfl jm_MD_isGood_n jm_MD_isGood_f rfl rfl rfl rfl rfl rfl rfl (Nat.zero_le _) (Nat.zero_le _) ?_
  show jx_W (jm_MD_isGood, _, _, _, _, _, _) _ 0 0 0 [some _] [] _
  refine jr_aload rfl rfl ?_
  refine jr_getI rfl rfl ?_
  refine jr_if_ne rfl (fun _ => ?_) (fun z => absurd z e2)
  refine jr_ic rfl ?_
  refine jr_zret rfl rfl rfl (Nat.zero_le _) (Nat.zero_le _) ?_
  refine jr_if_eq rfl (fun _ => ?_) (fun z => absurd (by decide) z)
  refine jr_aload rfl rfl ?_
  refine jr_aload rfl rfl ?_
  refine jr_lc rfl ?_
  refine jr_cv1 (mc' := 0) (ms' := 0) rfl jm_MD_isWord_n jm_MD_isWord_f rfl rfl rfl rfl rfl rfl rfl (Nat.zero_le _) (Nat.zero_le _) ?_
  refine eM_isWord (B := B) (sz := sz) (t := t + 1) m2 (i := 8) (by decide) jT_W8 ?_
  refine jr_cv1 (mc' := 0) (ms' := 0) rfl jm_MD_must_n jm_MD_must_f rfl rfl rfl rfl rfl rfl rfl (Nat.zero_le _) (Nat.zero_le _) ?_
  refine eM_must_b e2 ?_
  refine jr_aload rfl rfl ?_
  refine jr_getR rfl rfl rfl rfl (Or.inl rfl) ?_
  refine jr_iload rfl rfl ?_
  refine jr_aload rfl rfl ?_
  refine jr_aload rfl rfl ?_
  refine jr_cv0 (mc' := 0) (ms' := 0) rfl jm_MD_personHere_n jm_MD_personHere_f rfl rfl rfl rfl rfl rfl rfl (Nat.zero_le _) (Nat.zero_le _) ?_
  show jx_W (jm_MD_personHere, _, _, _, _, _, _) _ 0 0 0 [some _] [] _
  refine jr_aload rfl rfl ?_
  refine jr_aload rfl rfl ?_
  refine jr_getR rfl rfl rfl rfl (Or.inl rfl) ?_
  refine jr_ic rfl ?_
  refine jr_aload rfl rfl ?_
  refine jr_getI rfl rfl ?_
  refine jr_imul rfl ?_
  refine jr_aload rfl rfl ?_
  refine jr_getR rfl rfl rfl rfl (Or.inl rfl) ?_
  refine jr_aload rfl rfl ?_
  refine jr_getI rfl rfl ?_
  refine jr_iald (len := 2) rfl rfl (by first | exact b2) (by omega) ?_
  rw [show jh_I (ju_I (h2) 73 0 (upd (jh_I (h2) 73 0) ((12 * β + V 0 2)) (0))) 11 0 44 = nI β from b2, show jh_I (ju_I (h2) 73 0 (upd (jh_I (h2) 73 0) ((12 * β + V 0 2)) (0))) 67 0 β = nI (V 0 1) from (congrFun ((g2.1 67 0 (by decide)).trans (g1.1 67 0 (by decide))) β).trans p1, show (5 : Int32) * nI β = nI (5 * β) from jn_mul rfl rfl]
  refine jr_cv3 (mc' := 0) (ms' := 0) rfl jm_MD_here_n jm_MD_here_f rfl rfl rfl rfl rfl rfl rfl (Nat.zero_le _) (Nat.zero_le _) ?_
  refine eM_here_p (B := B) (sz := sz) (t := t + 1) m2 hβ hWp (fun j hj => (congrFun ((congrFun (congrFun (congrArg (·.1) g2.2.1) 91) 0).trans (g1.2.1 91 0 (by decide))) _).trans ((p2 j hj).2)) (by omega) ?_
  refine jr_iret rfl rfl (Nat.zero_le _) (Nat.zero_le _) ?_
  refine jr_cv1 (mc' := 0) (ms' := 0) rfl jm_MD_told_n jm_MD_told_f rfl rfl rfl rfl rfl rfl rfl (Nat.zero_le _) (Nat.zero_le _) ?_
  refine eM_told_b e2 ?_
  refine jr_iast (len := 24) rfl rfl rfl (by omega) ?_
  refine jr_aload rfl rfl ?_
  refine jr_cv0 (mc' := 0) (ms' := 0) rfl jm_MD_isGood_n jm_MD_isGood_f rfl rfl rfl rfl rfl rfl rfl (Nat.zero_le _) (Nat.zero_le _) ?_
  show jx_W (jm_MD_isGood, _, _, _, _, _, _) _ 0 0 0 [some _] [] _
  refine jr_aload rfl rfl ?_
  refine jr_getI rfl rfl ?_
  refine jr_if_ne rfl (fun _ => ?_) (fun z => absurd z e2)
  refine jr_ic rfl ?_
  refine jr_zret rfl rfl rfl (Nat.zero_le _) (Nat.zero_le _) ?_
  refine jr_if_eq rfl (fun _ => ?_) (fun z => absurd (by decide) z)
  refine jr_aload rfl rfl ?_
  refine jr_cv0 (mc' := 0) (ms' := 0) rfl jm_MD_isGood_n jm_MD_isGood_f rfl rfl rfl rfl rfl rfl rfl (Nat.zero_le _) (Nat.zero_le _) ?_
  show jx_W (jm_MD_isGood, _, _, _, _, _, _) _ 0 0 0 [some _] [] _
  refine jr_aload rfl rfl ?_
  refine jr_getI rfl rfl ?_
  refine jr_if_ne rfl (fun _ => ?_) (fun z => absurd z e2)
  refine jr_ic rfl ?_
  refine jr_zret rfl rfl rfl (Nat.zero_le _) (Nat.zero_le _) ?_
  refine jr_if_eq rfl (fun _ => ?_) (fun z => absurd (by decide) z)
  refine jr_aload rfl rfl ?_
  refine jr_getR rfl rfl rfl rfl (Or.inl rfl) ?_
  refine jr_iload rfl rfl ?_
  refine jr_aload rfl rfl ?_
  refine jr_lc rfl ?_
  refine jr_ic rfl ?_
  refine jr_ic rfl ?_
  refine jr_cv3 (mc' := 0) (ms' := 0) rfl jm_MD_after_n jm_MD_after_f rfl rfl rfl rfl rfl rfl rfl (Nat.zero_le _) (Nat.zero_le _) ?_
  show jx_W (jm_MD_after, _, _, _, _, _, _) _ 0 0 0 [some _, some _, none, some _, some _] [] _
  refine jr_aload rfl rfl ?_
  refine jr_aload rfl rfl ?_
  refine jr_lload rfl rfl ?_
  refine jr_cv1 (mc' := 0) (ms' := 0) rfl jm_MD_isWord_n jm_MD_isWord_f rfl rfl rfl rfl rfl rfl rfl (Nat.zero_le _) (Nat.zero_le _) ?_
  refine eM_isWord (B := B) (sz := sz) (t := t + 1) m2 (i := 14) (by decide) jT_W14 ?_
  refine jr_cv1 (mc' := 0) (ms' := 0) rfl jm_MD_must_n jm_MD_must_f rfl rfl rfl rfl rfl rfl rfl (Nat.zero_le _) (Nat.zero_le _) ?_
  refine eM_must_b e2 ?_
  refine jr_aload rfl rfl ?_
  refine jr_iload rfl rfl ?_
  refine jr_iload rfl rfl ?_
  refine jr_cv2 (mc' := 0) (ms' := 0) rfl jm_MD_numeral_n jm_MD_numeral_f rfl rfl rfl rfl rfl rfl rfl (Nat.zero_le _) (Nat.zero_le _) ?_
  refine eM_num_b (lo := 1) (hi := 99) e2 ?_
  refine jr_iret rfl rfl (Nat.zero_le _) (Nat.zero_le _) ?_
  refine jr_iast (len := 24) rfl rfl rfl (by omega) ?_
  refine jr_aload rfl rfl ?_
  refine jr_getR rfl rfl rfl rfl (Or.inl rfl) ?_
  refine jr_iload rfl rfl ?_
  refine jr_aload rfl rfl ?_
  refine jr_lc rfl ?_
  refine jr_ic rfl ?_
  refine jr_ic rfl ?_
  refine jr_cv3 (mc' := 0) (ms' := 0) rfl jm_MD_after_n jm_MD_after_f rfl rfl rfl rfl rfl rfl rfl (Nat.zero_le _) (Nat.zero_le _) ?_
  show jx_W (jm_MD_after, _, _, _, _, _, _) _ 0 0 0 [some _, some _, none, some _, some _] [] _
  refine jr_aload rfl rfl ?_
  refine jr_aload rfl rfl ?_
  refine jr_lload rfl rfl ?_
  refine jr_cv1 (mc' := 0) (ms' := 0) rfl jm_MD_isWord_n jm_MD_isWord_f rfl rfl rfl rfl rfl rfl rfl (Nat.zero_le _) (Nat.zero_le _) ?_
  refine eM_isWord (B := B) (sz := sz) (t := t + 1) m2 (i := 15) (by decide) jT_W15 ?_
  refine jr_cv1 (mc' := 0) (ms' := 0) rfl jm_MD_must_n jm_MD_must_f rfl rfl rfl rfl rfl rfl rfl (Nat.zero_le _) (Nat.zero_le _) ?_
  refine eM_must_b e2 ?_
  refine jr_aload rfl rfl ?_
  refine jr_iload rfl rfl ?_
  refine jr_iload rfl rfl ?_
  refine jr_cv2 (mc' := 0) (ms' := 0) rfl jm_MD_numeral_n jm_MD_numeral_f rfl rfl rfl rfl rfl rfl rfl (Nat.zero_le _) (Nat.zero_le _) ?_
  refine eM_num_b (lo := 1) (hi := 31) e2 ?_
  refine jr_iret rfl rfl (Nat.zero_le _) (Nat.zero_le _) ?_
  refine jr_iast (len := 24) rfl rfl rfl (by omega) ?_
  refine jr_aload rfl rfl ?_
  refine jr_aload rfl rfl ?_
  refine jr_lc rfl ?_
  refine jr_cv1 (mc' := 0) (ms' := 0) rfl jm_MD_isWord_n jm_MD_isWord_f rfl rfl rfl rfl rfl rfl rfl (Nat.zero_le _) (Nat.zero_le _) ?_
  refine eM_isWord (B := B) (sz := sz) (t := t + 1) m2 (i := 16) (by decide) jT_W16 ?_
  refine jr_cv1 (mc' := 0) (ms' := 0) rfl jm_MD_must_n jm_MD_must_f rfl rfl rfl rfl rfl rfl rfl (Nat.zero_le _) (Nat.zero_le _) ?_
  refine eM_must_b e2 ?_
  refine jr_aload rfl rfl ?_
  refine jr_getR rfl rfl rfl rfl (Or.inl rfl) ?_
  refine jr_iload rfl rfl ?_
  refine jr_aload rfl rfl ?_
  refine jr_aload rfl rfl ?_
  refine jr_aload rfl rfl ?_
  refine jr_getR rfl rfl rfl rfl (Or.inl rfl) ?_
  refine jr_ic rfl ?_
  refine jr_aload rfl rfl ?_
  refine jr_getI rfl rfl ?_
  refine jr_imul rfl ?_
  refine jr_aload rfl rfl ?_
  refine jr_getR rfl rfl rfl rfl (Or.inl rfl) ?_
  refine jr_aload rfl rfl ?_
  refine jr_getI rfl rfl ?_
  refine jr_iald (len := 2) rfl rfl b2 (by omega) ?_
  rw [show jh_I (ju_I (ju_I (ju_I (ju_I (h2) 73 0 (upd (jh_I (h2) 73 0) ((12 * β + V 0 2)) (0))) 74 0 (upd (jh_I (ju_I (h2) 73 0 (upd (jh_I (h2) 73 0) ((12 * β + V 0 2)) (0))) 74 0) ((12 * β + V 0 2)) (0))) 75 0 (upd (jh_I (ju_I (ju_I (h2) 73 0 (upd (jh_I (h2) 73 0) ((12 * β + V 0 2)) (0))) 74 0 (upd (jh_I (ju_I (h2) 73 0 (upd (jh_I (h2) 73 0) ((12 * β + V 0 2)) (0))) 74 0) ((12 * β + V 0 2)) (0))) 75 0) ((12 * β + V 0 2)) (nI 1))) 76 0 (upd (jh_I (ju_I (ju_I (ju_I (h2) 73 0 (upd (jh_I (h2) 73 0) ((12 * β + V 0 2)) (0))) 74 0 (upd (jh_I (ju_I (h2) 73 0 (upd (jh_I (h2) 73 0) ((12 * β + V 0 2)) (0))) 74 0) ((12 * β + V 0 2)) (0))) 75 0 (upd (jh_I (ju_I (ju_I (h2) 73 0 (upd (jh_I (h2) 73 0) ((12 * β + V 0 2)) (0))) 74 0 (upd (jh_I (ju_I (h2) 73 0 (upd (jh_I (h2) 73 0) ((12 * β + V 0 2)) (0))) 74 0) ((12 * β + V 0 2)) (0))) 75 0) ((12 * β + V 0 2)) (nI 1))) 76 0) ((12 * β + V 0 2)) (nI 1))) 11 0 44 = nI β from b2, show jh_I (ju_I (ju_I (ju_I (ju_I (h2) 73 0 (upd (jh_I (h2) 73 0) ((12 * β + V 0 2)) (0))) 74 0 (upd (jh_I (ju_I (h2) 73 0 (upd (jh_I (h2) 73 0) ((12 * β + V 0 2)) (0))) 74 0) ((12 * β + V 0 2)) (0))) 75 0 (upd (jh_I (ju_I (ju_I (h2) 73 0 (upd (jh_I (h2) 73 0) ((12 * β + V 0 2)) (0))) 74 0 (upd (jh_I (ju_I (h2) 73 0 (upd (jh_I (h2) 73 0) ((12 * β + V 0 2)) (0))) 74 0) ((12 * β + V 0 2)) (0))) 75 0) ((12 * β + V 0 2)) (nI 1))) 76 0 (upd (jh_I (ju_I (ju_I (ju_I (h2) 73 0 (upd (jh_I (h2) 73 0) ((12 * β + V 0 2)) (0))) 74 0 (upd (jh_I (ju_I (h2) 73 0 (upd (jh_I (h2) 73 0) ((12 * β + V 0 2)) (0))) 74 0) ((12 * β + V 0 2)) (0))) 75 0 (upd (jh_I (ju_I (ju_I (h2) 73 0 (upd (jh_I (h2) 73 0) ((12 * β + V 0 2)) (0))) 74 0 (upd (jh_I (ju_I (h2) 73 0 (upd (jh_I (h2) 73 0) ((12 * β + V 0 2)) (0))) 74 0) ((12 * β + V 0 2)) (0))) 75 0) ((12 * β + V 0 2)) (nI 1))) 76 0) ((12 * β + V 0 2)) (nI 1))) 66 0 β = nI (V 0 0) from (congrFun ((g2.1 66 0 (by decide)).trans (g1.1 66 0 (by decide))) β).trans a1, show (6 : Int32) * nI β = nI (6 * β) from jn_mul rfl rfl]
  refine jr_cv3 (mc' := 0) (ms' := 0) rfl jm_MD_here_n jm_MD_here_f rfl rfl rfl rfl rfl rfl rfl (Nat.zero_le _) (Nat.zero_le _) ?_
  refine eM_here_m (B := B) (sz := sz) (t := t + 1) m2 hβ hWm (fun j hj => (congrFun ((congrFun (congrFun (congrArg (·.1) g2.2.1) 90) 0).trans (g1.2.1 90 0 (by decide))) _).trans ((a2 j hj).2.2)) (by omega) ?_
  refine jr_cv1 (mc' := 0) (ms' := 0) rfl jm_MD_told_n jm_MD_told_f rfl rfl rfl rfl rfl rfl rfl (Nat.zero_le _) (Nat.zero_le _) ?_
  refine eM_told_b e2 ?_
  refine jr_iast (len := 24) rfl rfl rfl (by omega) ?_
  refine jr_aload rfl rfl ?_
  refine jr_cv0 (mc' := 0) (ms' := 0) rfl jm_MD_isGood_n jm_MD_isGood_f rfl rfl rfl rfl rfl rfl rfl (Nat.zero_le _) (Nat.zero_le _) ?_
  show jx_W (jm_MD_isGood, _, _, _, _, _, _) _ 0 0 0 [some _] [] _
  refine jr_aload rfl rfl ?_
  refine jr_getI rfl rfl ?_
  refine jr_if_ne rfl (fun _ => ?_) (fun z => absurd z e2)
  refine jr_ic rfl ?_
  refine jr_zret rfl rfl rfl (Nat.zero_le _) (Nat.zero_le _) ?_
  refine jr_if_eq rfl (fun _ => ?_) (fun z => absurd (by decide) z)
  refine jr_aload rfl rfl ?_
  refine jr_getR rfl rfl rfl rfl (Or.inl rfl) ?_
  refine jr_iload rfl rfl ?_
  refine jr_aload rfl rfl ?_
  refine jr_lc rfl ?_
  refine jr_cv1 (mc' := 0) (ms' := 0) rfl jm_MD_has_n jm_MD_has_f rfl rfl rfl rfl rfl rfl rfl (Nat.zero_le _) (Nat.zero_le _) ?_
  refine eM_has_b e2 ?_
  refine jr_zast (len := 24) rfl rfl rfl (by omega) ?_
  refine jr_aload rfl rfl ?_
  refine jr_getR rfl rfl rfl rfl (Or.inl rfl) ?_
  refine jr_aload rfl rfl ?_
  refine jr_getI rfl rfl ?_
  refine jr_dup2 rfl ?_
  refine jr_iald (len := 2) rfl rfl b2 (by omega) ?_
  refine jr_ic rfl ?_
  refine jr_iadd rfl ?_
  rw [show jh_I (ju_I (ju_I (ju_I (ju_I (ju_I (ju_I (h2) 73 0 (upd (jh_I (h2) 73 0) ((12 * β + V 0 2)) (0))) 74 0 (upd (jh_I (ju_I (h2) 73 0 (upd (jh_I (h2) 73 0) ((12 * β + V 0 2)) (0))) 74 0) ((12 * β + V 0 2)) (0))) 75 0 (upd (jh_I (ju_I (ju_I (h2) 73 0 (upd (jh_I (h2) 73 0) ((12 * β + V 0 2)) (0))) 74 0 (upd (jh_I (ju_I (h2) 73 0 (upd (jh_I (h2) 73 0) ((12 * β + V 0 2)) (0))) 74 0) ((12 * β + V 0 2)) (0))) 75 0) ((12 * β + V 0 2)) (nI 1))) 76 0 (upd (jh_I (ju_I (ju_I (ju_I (h2) 73 0 (upd (jh_I (h2) 73 0) ((12 * β + V 0 2)) (0))) 74 0 (upd (jh_I (ju_I (h2) 73 0 (upd (jh_I (h2) 73 0) ((12 * β + V 0 2)) (0))) 74 0) ((12 * β + V 0 2)) (0))) 75 0 (upd (jh_I (ju_I (ju_I (h2) 73 0 (upd (jh_I (h2) 73 0) ((12 * β + V 0 2)) (0))) 74 0 (upd (jh_I (ju_I (h2) 73 0 (upd (jh_I (h2) 73 0) ((12 * β + V 0 2)) (0))) 74 0) ((12 * β + V 0 2)) (0))) 75 0) ((12 * β + V 0 2)) (nI 1))) 76 0) ((12 * β + V 0 2)) (nI 1))) 77 0 (upd (jh_I (ju_I (ju_I (ju_I (ju_I (h2) 73 0 (upd (jh_I (h2) 73 0) ((12 * β + V 0 2)) (0))) 74 0 (upd (jh_I (ju_I (h2) 73 0 (upd (jh_I (h2) 73 0) ((12 * β + V 0 2)) (0))) 74 0) ((12 * β + V 0 2)) (0))) 75 0 (upd (jh_I (ju_I (ju_I (h2) 73 0 (upd (jh_I (h2) 73 0) ((12 * β + V 0 2)) (0))) 74 0 (upd (jh_I (ju_I (h2) 73 0 (upd (jh_I (h2) 73 0) ((12 * β + V 0 2)) (0))) 74 0) ((12 * β + V 0 2)) (0))) 75 0) ((12 * β + V 0 2)) (nI 1))) 76 0 (upd (jh_I (ju_I (ju_I (ju_I (h2) 73 0 (upd (jh_I (h2) 73 0) ((12 * β + V 0 2)) (0))) 74 0 (upd (jh_I (ju_I (h2) 73 0 (upd (jh_I (h2) 73 0) ((12 * β + V 0 2)) (0))) 74 0) ((12 * β + V 0 2)) (0))) 75 0 (upd (jh_I (ju_I (ju_I (h2) 73 0 (upd (jh_I (h2) 73 0) ((12 * β + V 0 2)) (0))) 74 0 (upd (jh_I (ju_I (h2) 73 0 (upd (jh_I (h2) 73 0) ((12 * β + V 0 2)) (0))) 74 0) ((12 * β + V 0 2)) (0))) 75 0) ((12 * β + V 0 2)) (nI 1))) 76 0) ((12 * β + V 0 2)) (nI 1))) 77 0) ((12 * β + V 0 2)) (0))) 84 0 (upd (jh_I (ju_I (ju_I (ju_I (ju_I (ju_I (h2) 73 0 (upd (jh_I (h2) 73 0) ((12 * β + V 0 2)) (0))) 74 0 (upd (jh_I (ju_I (h2) 73 0 (upd (jh_I (h2) 73 0) ((12 * β + V 0 2)) (0))) 74 0) ((12 * β + V 0 2)) (0))) 75 0 (upd (jh_I (ju_I (ju_I (h2) 73 0 (upd (jh_I (h2) 73 0) ((12 * β + V 0 2)) (0))) 74 0 (upd (jh_I (ju_I (h2) 73 0 (upd (jh_I (h2) 73 0) ((12 * β + V 0 2)) (0))) 74 0) ((12 * β + V 0 2)) (0))) 75 0) ((12 * β + V 0 2)) (nI 1))) 76 0 (upd (jh_I (ju_I (ju_I (ju_I (h2) 73 0 (upd (jh_I (h2) 73 0) ((12 * β + V 0 2)) (0))) 74 0 (upd (jh_I (ju_I (h2) 73 0 (upd (jh_I (h2) 73 0) ((12 * β + V 0 2)) (0))) 74 0) ((12 * β + V 0 2)) (0))) 75 0 (upd (jh_I (ju_I (ju_I (h2) 73 0 (upd (jh_I (h2) 73 0) ((12 * β + V 0 2)) (0))) 74 0 (upd (jh_I (ju_I (h2) 73 0 (upd (jh_I (h2) 73 0) ((12 * β + V 0 2)) (0))) 74 0) ((12 * β + V 0 2)) (0))) 75 0) ((12 * β + V 0 2)) (nI 1))) 76 0) ((12 * β + V 0 2)) (nI 1))) 77 0 (upd (jh_I (ju_I (ju_I (ju_I (ju_I (h2) 73 0 (upd (jh_I (h2) 73 0) ((12 * β + V 0 2)) (0))) 74 0 (upd (jh_I (ju_I (h2) 73 0 (upd (jh_I (h2) 73 0) ((12 * β + V 0 2)) (0))) 74 0) ((12 * β + V 0 2)) (0))) 75 0 (upd (jh_I (ju_I (ju_I (h2) 73 0 (upd (jh_I (h2) 73 0) ((12 * β + V 0 2)) (0))) 74 0 (upd (jh_I (ju_I (h2) 73 0 (upd (jh_I (h2) 73 0) ((12 * β + V 0 2)) (0))) 74 0) ((12 * β + V 0 2)) (0))) 75 0) ((12 * β + V 0 2)) (nI 1))) 76 0 (upd (jh_I (ju_I (ju_I (ju_I (h2) 73 0 (upd (jh_I (h2) 73 0) ((12 * β + V 0 2)) (0))) 74 0 (upd (jh_I (ju_I (h2) 73 0 (upd (jh_I (h2) 73 0) ((12 * β + V 0 2)) (0))) 74 0) ((12 * β + V 0 2)) (0))) 75 0 (upd (jh_I (ju_I (ju_I (h2) 73 0 (upd (jh_I (h2) 73 0) ((12 * β + V 0 2)) (0))) 74 0 (upd (jh_I (ju_I (h2) 73 0 (upd (jh_I (h2) 73 0) ((12 * β + V 0 2)) (0))) 74 0) ((12 * β + V 0 2)) (0))) 75 0) ((12 * β + V 0 2)) (nI 1))) 76 0) ((12 * β + V 0 2)) (nI 1))) 77 0) ((12 * β + V 0 2)) (0))) 84 0) ((12 * β + V 0 2)) (0 &&& 1))) 68 0 β = nI (V 0 2) from (congrFun ((g2.1 68 0 (by decide)).trans (g1.1 68 0 (by decide))) β).trans c1, show nI (V 0 2) + 1 = nI (V 0 2 + 1) from jn_S _]
  refine jr_iast (len := 2) rfl rfl b2 (by omega) ?_
  refine jr_vret rfl rfl (Nat.zero_le _) (Nat.zero_le _) ?_
  exact k _ (jMF_I (a := 68) (w := 1) (jMF_I (a := 84) (w := 12) (jMF_I (a := 77) (w := 12) (jMF_I (a := 76) (w := 12) (jMF_I (a := 75) (w := 12) (jMF_I (a := 74) (w := 12) (jMF_I (a := 73) (w := 12) (jMF_ft (jMF_L (a := 92) (w := 12) (jMF_G (F) g1) (by decide) (by decide) (by omega) (by omega)) g2) (by decide) (by decide) (by omega) (by omega)) (by decide) (by decide) (by omega) (by omega)) (by decide) (by decide) (by omega) (by omega)) (by decide) (by decide) (by omega) (by omega)) (by decide) (by decide) (by omega) (by omega)) (by decide) (by decide) (by omega) (by omega)) (by decide) (by decide) (by omega) (by omega)) g2.2.2.2.1 g2.2.2.2.2

set_option maxHeartbeats 800000 in
set_option maxRecDepth 100000 in
theorem eM_due_b3 {d : Nat} {h : jx_H} {Q : Option jx_V → jx_H → Prop} {h0 : jx_H} {B : Nat → Int32} {sz β t : Nat} {V : Nat → Nat → Nat} {W : Nat → Nat → List Nat} {D : Nat → Int32} (x : jML h B sz β t V W D) (F : jMF β h0 h) (hβ : β < 2) (hn : V 0 2 < 12) (h5 : V 0 1 ≤ 5) (h6 : V 0 0 ≤ 6) (hW : jnW (W 2) (V 0 2)) (hWp : jnW (W 1) (V 0 1)) (hWm : jnW (W 0) (V 0 0)) (k0 : jT_K B sz t = 3) (n0 : jnF (W 2) (jT_wd B sz (jT_p B sz t)) (V 0 2) 0 = none) (k1 : jT_K B sz (t + 1) = 113) (k2 : ¬ jT_K B sz (t + 2) = 3) (k : ∀ h', jMF β h0 h' → jh_I h' 11 0 4 = jX_kd (jT_K B sz (t + 2)) → jPl h' (jT_p B sz (t + 2)) → Q none h')  : jx_Ev jm_MD_readDue (d + 8) 0 0 false 1 [jv_r 11 0] h Q := by
  show jx_W (jm_MD_readDue, d + 8, 0, 0, false, 1, _) Q 0 0 0 [some (jv_r 11 0), none] [] _
  obtain ⟨⟨t0, m0, f0, b0, -, -, -, -⟩, ⟨⟨a1, a2⟩, ⟨p1, p2⟩, ⟨c1, c2⟩, -⟩, -⟩ := id x
  have xb := b0
  have hr : ∀ j, j < V 0 2 → jh_L h 92 0 (12 * β + j) = jT_key (W 2 j) := fun j hj => (c2 j hj).2
  refine jr_ic rfl ?_
  refine jr_aload rfl rfl ?_
  refine jr_getI rfl rfl ?_
  refine jr_imul rfl ?_
  refine jr_aload rfl rfl ?_
  refine jr_getR rfl rfl rfl rfl (Or.inl rfl) ?_
  refine jr_aload rfl rfl ?_
  refine jr_getI rfl rfl ?_
  refine jr_iald (len := 2) rfl rfl b0 (by omega) ?_
  refine jr_iadd rfl ?_
  rw [xb, c1, show (12 : Int32) * nI β + nI (V 0 2) = nI (12 * β + V 0 2) from jn_add (jn_mul rfl rfl) rfl]
  refine jr_ist1 rfl rfl ?_
  refine jr_aload rfl rfl ?_
  refine jr_getR rfl rfl rfl rfl (Or.inl rfl) ?_
  refine jr_iload rfl rfl ?_
  refine jr_aload rfl rfl ?_
  refine jr_aload rfl rfl ?_
  refine jr_aload rfl rfl ?_
  refine jr_getR rfl rfl rfl rfl (Or.inl rfl) ?_
  refine jr_ic rfl ?_
  refine jr_aload rfl rfl ?_
  refine jr_getI rfl rfl ?_
  refine jr_imul rfl ?_
  refine jr_aload rfl rfl ?_
  refine jr_getR rfl rfl rfl rfl (Or.inl rfl) ?_
  refine jr_aload rfl rfl ?_
  refine jr_getI rfl rfl ?_
  refine jr_iald (len := 2) rfl rfl b0 (by omega) ?_
  rw [xb, c1, show (12 : Int32) * nI β = nI (12 * β) from jn_mul rfl rfl]
  refine jr_cv3 (mc' := 0) (ms' := 0) rfl jm_MD_here_n jm_MD_here_f rfl rfl rfl rfl rfl rfl rfl (Nat.zero_le _) (Nat.zero_le _) ?_
  refine eM_here_d m0 hβ hW hr (by omega) ?_
  rw [if_pos k0, n0]
  refine jr_cv1 (mc' := 0) (ms' := 0) rfl jm_MD_fresh_n jm_MD_fresh_f rfl rfl rfl rfl rfl rfl rfl (Nat.zero_le _) (Nat.zero_le _) ?_
  refine eM_fresh_y (B := B) (sz := sz) (t := t) t0 m0 f0 k0 (fun h1 g1 m1 => ?_)
  have t1 := jX_t_MG g1 t0
  have f1 : jh_I h1 11 0 4 = 0 := (g1.2.2.2 4 (by decide)).trans f0
  have b1 : jh_I h1 11 0 44 = nI β := (g1.2.2.2 44 (by decide)).trans b0
  refine jr_last (len := 24) rfl rfl rfl (by omega) ?_
  refine jr_aload rfl rfl ?_
  refine jr_aload rfl rfl ?_
  refine jr_lc rfl ?_
  refine jr_cv1 (mc' := 0) (ms' := 0) rfl jm_MD_isWord_n jm_MD_isWord_f rfl rfl rfl rfl rfl rfl rfl (Nat.zero_le _) (Nat.zero_le _) ?_
  refine eM_isWord (B := B) (sz := sz) (t := t + 1) m1 (i := 13) (by decide) jT_W13 ?_
  refine jr_cv1 (mc' := 0) (ms' := 0) rfl jm_MD_must_n jm_MD_must_f rfl rfl rfl rfl rfl rfl rfl (Nat.zero_le _) (Nat.zero_le _) ?_
  refine eM_must_y (B := B) (sz := sz) (t := t + 1) t1 m1 f1 (by rw [if_pos k1]; decide) (fun h2 g2 m2 => ?_)
  have t2 := jX_t_MG g2 t1
  have f2 : jh_I h2 11 0 4 = 0 := (g2.2.2.2 4 (by decide)).trans f1
  have b2 : jh_I h2 11 0 44 = nI β := (g2.2.2.2 44 (by decide)).trans b1
  refine jr_aload rfl rfl ?_
  refine jr_getR rfl rfl rfl rfl (Or.inl rfl) ?_
  refine jr_iload rfl rfl ?_
  refine jr_aload rfl rfl ?_
  refine jr_aload rfl rfl ?_
  refine jr_cv0 (mc' := 0) (ms' := 0) rfl jm_MD_personHere_n jm_MD_personHere_f rfl rfl rfl rfl rfl rfl rfl (Nat.zero_le _) (Nat.zero_le _) ?_
  show jx_W (jm_MD_personHere, _, _, _, _, _, _) _ 0 0 0 [some _] [] _
  refine jr_aload rfl rfl ?_
  refine jr_aload rfl rfl ?_
  refine jr_getR rfl rfl rfl rfl (Or.inl rfl) ?_
  refine jr_ic rfl ?_
  refine jr_aload rfl rfl ?_
  refine jr_getI rfl rfl ?_
  refine jr_imul rfl ?_
  refine jr_aload rfl rfl ?_
  refine jr_getR rfl rfl rfl rfl (Or.inl rfl) ?_
  refine jr_aload rfl rfl ?_
  refine jr_getI rfl rfl ?_
  refine jr_iald (len := 2) rfl rfl (by first | exact b3 | exact b2) (by omega) ?_
  rw [show jh_I (h2) 11 0 44 = nI β from b2, show jh_I (h2) 67 0 β = nI (V 0 1) from (congrFun ((g2.1 67 0 (by decide)).trans (g1.1 67 0 (by decide))) β).trans p1, show (5 : Int32) * nI β = nI (5 * β) from jn_mul rfl rfl]
  refine jr_cv3 (mc' := 0) (ms' := 0) rfl jm_MD_here_n jm_MD_here_f rfl rfl rfl rfl rfl rfl rfl (Nat.zero_le _) (Nat.zero_le _) ?_
  refine eM_here_p (B := B) (sz := sz) (t := t + 2) m2 hβ hWp (fun j hj => (congrFun ((g2.2.1 91 0 (by decide)).trans (g1.2.1 91 0 (by decide))) _).trans ((p2 j hj).2)) (by omega) ?_
  refine jr_iret rfl rfl (Nat.zero_le _) (Nat.zero_le _) ?_
  rw [if_neg k2]
  refine jr_cv1 (mc' := 0) (ms' := 0) rfl jm_MD_told_n jm_MD_told_f rfl rfl rfl rfl rfl rfl rfl (Nat.zero_le _) (Nat.zero_le _) ?_
  refine eM_told_n (B := B) (sz := sz) (t := t + 2) t2 m2 f2 k2 (fun h3 g3 => ?_)
  have e3 : ¬ jh_I h3 11 0 4 = 0 := by rw [g3.2.2.2.1]; exact jX_kd_n _
  have m3 := jT_mc_ft g3 m2
  have b3 : jh_I h3 11 0 44 = nI β := (g3.2.2.1 44 (by decide) (by decide)).trans b2
  refine jr_iast (len := 24) rfl rfl rfl (by omega) ?_
  refine jr_aload rfl rfl ?_
  refine jr_cv0 (mc' := 0) (ms' := 0) rfl jm_MD_isGood_n jm_MD_isGood_f rfl rfl rfl rfl rfl rfl rfl (Nat.zero_le _) (Nat.zero_le _) ?_
  show jx_W (jm_MD_isGood, _, _, _, _, _, _) _ 0 0 0 [some _] [] _
  refine jr_aload rfl rfl ?_
  refine jr_getI rfl rfl ?_
  refine jr_if_ne rfl (fun _ => ?_) (fun z => absurd z e3)
  refine jr_ic rfl ?_
  refine jr_zret rfl rfl rfl (Nat.zero_le _) (Nat.zero_le _) ?_
  refine jr_if_eq rfl (fun _ => ?_) (fun z => absurd (by decide) z)
  refine jr_aload rfl rfl ?_
  refine jr_aload rfl rfl ?_
  refine jr_lc rfl ?_
  refine jr_cv1 (mc' := 0) (ms' := 0) rfl jm_MD_isWord_n jm_MD_isWord_f rfl rfl rfl rfl rfl rfl rfl (Nat.zero_le _) (Nat.zero_le _) ?_
  refine eM_isWord (B := B) (sz := sz) (t := t + 2) m3 (i := 8) (by decide) jT_W8 ?_
  refine jr_cv1 (mc' := 0) (ms' := 0) rfl jm_MD_must_n jm_MD_must_f rfl rfl rfl rfl rfl rfl rfl (Nat.zero_le _) (Nat.zero_le _) ?_
  refine eM_must_b e3 ?_
  refine jr_aload rfl rfl ?_
  refine jr_getR rfl rfl rfl rfl (Or.inl rfl) ?_
  refine jr_iload rfl rfl ?_
  refine jr_aload rfl rfl ?_
  refine jr_aload rfl rfl ?_
  refine jr_cv0 (mc' := 0) (ms' := 0) rfl jm_MD_personHere_n jm_MD_personHere_f rfl rfl rfl rfl rfl rfl rfl (Nat.zero_le _) (Nat.zero_le _) ?_
  show jx_W (jm_MD_personHere, _, _, _, _, _, _) _ 0 0 0 [some _] [] _
  refine jr_aload rfl rfl ?_
  refine jr_aload rfl rfl ?_
  refine jr_getR rfl rfl rfl rfl (Or.inl rfl) ?_
  refine jr_ic rfl ?_
  refine jr_aload rfl rfl ?_
  refine jr_getI rfl rfl ?_
  refine jr_imul rfl ?_
  refine jr_aload rfl rfl ?_
  refine jr_getR rfl rfl rfl rfl (Or.inl rfl) ?_
  refine jr_aload rfl rfl ?_
  refine jr_getI rfl rfl ?_
  refine jr_iald (len := 2) rfl rfl (by first | exact b3 | exact b2) (by omega) ?_
  rw [show jh_I (ju_I (h3) 73 0 (upd (jh_I (h3) 73 0) ((12 * β + V 0 2)) (0))) 11 0 44 = nI β from b3, show jh_I (ju_I (h3) 73 0 (upd (jh_I (h3) 73 0) ((12 * β + V 0 2)) (0))) 67 0 β = nI (V 0 1) from (congrFun ((g3.1 67 0 (by decide)).trans ((g2.1 67 0 (by decide)).trans (g1.1 67 0 (by decide)))) β).trans p1, show (5 : Int32) * nI β = nI (5 * β) from jn_mul rfl rfl]
  refine jr_cv3 (mc' := 0) (ms' := 0) rfl jm_MD_here_n jm_MD_here_f rfl rfl rfl rfl rfl rfl rfl (Nat.zero_le _) (Nat.zero_le _) ?_
  refine eM_here_p (B := B) (sz := sz) (t := t + 2) m3 hβ hWp (fun j hj => (congrFun ((congrFun (congrFun (congrArg (·.1) g3.2.1) 91) 0).trans ((g2.2.1 91 0 (by decide)).trans (g1.2.1 91 0 (by decide)))) _).trans ((p2 j hj).2)) (by omega) ?_
  refine jr_iret rfl rfl (Nat.zero_le _) (Nat.zero_le _) ?_
  refine jr_cv1 (mc' := 0) (ms' := 0) rfl jm_MD_told_n jm_MD_told_f rfl rfl rfl rfl rfl rfl rfl (Nat.zero_le _) (Nat.zero_le _) ?_
  refine eM_told_b e3 ?_
  refine jr_iast (len := 24) rfl rfl rfl (by omega) ?_
  refine jr_aload rfl rfl ?_
  refine jr_cv0 (mc' := 0) (ms' := 0) rfl jm_MD_isGood_n jm_MD_isGood_f rfl rfl rfl rfl rfl rfl rfl (Nat.zero_le _) (Nat.zero_le _) ?_
  show jx_W (jm_MD_isGood, _, _, _, _, _, _) _ 0 0 0 [some _] [] _
  refine jr_aload rfl rfl ?_
  refine jr_getI rfl rfl ?_
  refine jr_if_ne rfl (fun _ => ?_) (fun z => absurd z e3)
  refine jr_ic rfl ?_
  refine jr_zret rfl rfl rfl (Nat.zero_le _) (Nat.zero_le _) ?_
  refine jr_if_eq rfl (fun _ => ?_) (fun z => absurd (by decide) z)
  refine jr_aload rfl rfl ?_
  refine jr_cv0 (mc' := 0) (ms' := 0) rfl jm_MD_isGood_n jm_MD_isGood_f rfl rfl rfl rfl rfl rfl rfl (Nat.zero_le _) (Nat.zero_le _) ?_
  show jx_W (jm_MD_isGood, _, _, _, _, _, _) _ 0 0 0 [some _] [] _
  refine jr_aload rfl rfl ?_
  refine jr_getI rfl rfl ?_
  refine jr_if_ne rfl (fun _ => ?_) (fun z => absurd z e3)
  refine jr_ic rfl ?_
  refine jr_zret rfl rfl rfl (Nat.zero_le _) (Nat.zero_le _) ?_
  refine jr_if_eq rfl (fun _ => ?_) (fun z => absurd (by decide) z)
  refine jr_aload rfl rfl ?_
  refine jr_getR rfl rfl rfl rfl (Or.inl rfl) ?_
  refine jr_iload rfl rfl ?_
  refine jr_aload rfl rfl ?_
  refine jr_lc rfl ?_
  refine jr_ic rfl ?_
  refine jr_ic rfl ?_
  refine jr_cv3 (mc' := 0) (ms' := 0) rfl jm_MD_after_n jm_MD_after_f rfl rfl rfl rfl rfl rfl rfl (Nat.zero_le _) (Nat.zero_le _) ?_
  show jx_W (jm_MD_after, _, _, _, _, _, _) _ 0 0 0 [some _, some _, none, some _, some _] [] _
  refine jr_aload rfl rfl ?_
  refine jr_aload rfl rfl ?_
  refine jr_lload rfl rfl ?_
  refine jr_cv1 (mc' := 0) (ms' := 0) rfl jm_MD_isWord_n jm_MD_isWord_f rfl rfl rfl rfl rfl rfl rfl (Nat.zero_le _) (Nat.zero_le _) ?_
  refine eM_isWord (B := B) (sz := sz) (t := t + 2) m3 (i := 14) (by decide) jT_W14 ?_
  refine jr_cv1 (mc' := 0) (ms' := 0) rfl jm_MD_must_n jm_MD_must_f rfl rfl rfl rfl rfl rfl rfl (Nat.zero_le _) (Nat.zero_le _) ?_
  refine eM_must_b e3 ?_
  refine jr_aload rfl rfl ?_
  refine jr_iload rfl rfl ?_
  refine jr_iload rfl rfl ?_
  refine jr_cv2 (mc' := 0) (ms' := 0) rfl jm_MD_numeral_n jm_MD_numeral_f rfl rfl rfl rfl rfl rfl rfl (Nat.zero_le _) (Nat.zero_le _) ?_
  refine eM_num_b (lo := 1) (hi := 99) e3 ?_
  refine jr_iret rfl rfl (Nat.zero_le _) (Nat.zero_le _) ?_
  refine jr_iast (len := 24) rfl rfl rfl (by omega) ?_
  refine jr_aload rfl rfl ?_
  refine jr_getR rfl rfl rfl rfl (Or.inl rfl) ?_
  refine jr_iload rfl rfl ?_
  refine jr_aload rfl rfl ?_
  refine jr_lc rfl ?_
  refine jr_ic rfl ?_
  refine jr_ic rfl ?_
  refine jr_cv3 (mc' := 0) (ms' := 0) rfl jm_MD_after_n jm_MD_after_f rfl rfl rfl rfl rfl rfl rfl (Nat.zero_le _) (Nat.zero_le _) ?_
  show jx_W (jm_MD_after, _, _, _, _, _, _) _ 0 0 0 [some _, some _, none, some _, some _] [] _
  refine jr_aload rfl rfl ?_
  refine jr_aload rfl rfl ?_
  refine jr_lload rfl rfl ?_
  refine jr_cv1 (mc' := 0) (ms' := 0) rfl jm_MD_isWord_n jm_MD_isWord_f rfl rfl rfl rfl rfl rfl rfl (Nat.zero_le _) (Nat.zero_le _) ?_
  refine eM_isWord (B := B) (sz := sz) (t := t + 2) m3 (i := 15) (by decide) jT_W15 ?_
  refine jr_cv1 (mc' := 0) (ms' := 0) rfl jm_MD_must_n jm_MD_must_f rfl rfl rfl rfl rfl rfl rfl (Nat.zero_le _) (Nat.zero_le _) ?_
  refine eM_must_b e3 ?_
  refine jr_aload rfl rfl ?_
  refine jr_iload rfl rfl ?_
  refine jr_iload rfl rfl ?_
  refine jr_cv2 (mc' := 0) (ms' := 0) rfl jm_MD_numeral_n jm_MD_numeral_f rfl rfl rfl rfl rfl rfl rfl (Nat.zero_le _) (Nat.zero_le _) ?_
  refine eM_num_b (lo := 1) (hi := 31) e3 ?_
  refine jr_iret rfl rfl (Nat.zero_le _) (Nat.zero_le _) ?_
  refine jr_iast (len := 24) rfl rfl rfl (by omega) ?_
  refine jr_aload rfl rfl ?_
  refine jr_aload rfl rfl ?_
  refine jr_lc rfl ?_
  refine jr_cv1 (mc' := 0) (ms' := 0) rfl jm_MD_isWord_n jm_MD_isWord_f rfl rfl rfl rfl rfl rfl rfl (Nat.zero_le _) (Nat.zero_le _) ?_
  refine eM_isWord (B := B) (sz := sz) (t := t + 2) m3 (i := 16) (by decide) jT_W16 ?_
  refine jr_cv1 (mc' := 0) (ms' := 0) rfl jm_MD_must_n jm_MD_must_f rfl rfl rfl rfl rfl rfl rfl (Nat.zero_le _) (Nat.zero_le _) ?_
  refine eM_must_b e3 ?_
  refine jr_aload rfl rfl ?_
  refine jr_getR rfl rfl rfl rfl (Or.inl rfl) ?_
  refine jr_iload rfl rfl ?_
  refine jr_aload rfl rfl ?_
  refine jr_aload rfl rfl ?_
  refine jr_aload rfl rfl ?_
  refine jr_getR rfl rfl rfl rfl (Or.inl rfl) ?_
  refine jr_ic rfl ?_
  refine jr_aload rfl rfl ?_
  refine jr_getI rfl rfl ?_
  refine jr_imul rfl ?_
  refine jr_aload rfl rfl ?_
  refine jr_getR rfl rfl rfl rfl (Or.inl rfl) ?_
  refine jr_aload rfl rfl ?_
  refine jr_getI rfl rfl ?_
  refine jr_iald (len := 2) rfl rfl b3 (by omega) ?_
  rw [show jh_I (ju_I (ju_I (ju_I (ju_I (h3) 73 0 (upd (jh_I (h3) 73 0) ((12 * β + V 0 2)) (0))) 74 0 (upd (jh_I (ju_I (h3) 73 0 (upd (jh_I (h3) 73 0) ((12 * β + V 0 2)) (0))) 74 0) ((12 * β + V 0 2)) (0))) 75 0 (upd (jh_I (ju_I (ju_I (h3) 73 0 (upd (jh_I (h3) 73 0) ((12 * β + V 0 2)) (0))) 74 0 (upd (jh_I (ju_I (h3) 73 0 (upd (jh_I (h3) 73 0) ((12 * β + V 0 2)) (0))) 74 0) ((12 * β + V 0 2)) (0))) 75 0) ((12 * β + V 0 2)) (nI 1))) 76 0 (upd (jh_I (ju_I (ju_I (ju_I (h3) 73 0 (upd (jh_I (h3) 73 0) ((12 * β + V 0 2)) (0))) 74 0 (upd (jh_I (ju_I (h3) 73 0 (upd (jh_I (h3) 73 0) ((12 * β + V 0 2)) (0))) 74 0) ((12 * β + V 0 2)) (0))) 75 0 (upd (jh_I (ju_I (ju_I (h3) 73 0 (upd (jh_I (h3) 73 0) ((12 * β + V 0 2)) (0))) 74 0 (upd (jh_I (ju_I (h3) 73 0 (upd (jh_I (h3) 73 0) ((12 * β + V 0 2)) (0))) 74 0) ((12 * β + V 0 2)) (0))) 75 0) ((12 * β + V 0 2)) (nI 1))) 76 0) ((12 * β + V 0 2)) (nI 1))) 11 0 44 = nI β from b3, show jh_I (ju_I (ju_I (ju_I (ju_I (h3) 73 0 (upd (jh_I (h3) 73 0) ((12 * β + V 0 2)) (0))) 74 0 (upd (jh_I (ju_I (h3) 73 0 (upd (jh_I (h3) 73 0) ((12 * β + V 0 2)) (0))) 74 0) ((12 * β + V 0 2)) (0))) 75 0 (upd (jh_I (ju_I (ju_I (h3) 73 0 (upd (jh_I (h3) 73 0) ((12 * β + V 0 2)) (0))) 74 0 (upd (jh_I (ju_I (h3) 73 0 (upd (jh_I (h3) 73 0) ((12 * β + V 0 2)) (0))) 74 0) ((12 * β + V 0 2)) (0))) 75 0) ((12 * β + V 0 2)) (nI 1))) 76 0 (upd (jh_I (ju_I (ju_I (ju_I (h3) 73 0 (upd (jh_I (h3) 73 0) ((12 * β + V 0 2)) (0))) 74 0 (upd (jh_I (ju_I (h3) 73 0 (upd (jh_I (h3) 73 0) ((12 * β + V 0 2)) (0))) 74 0) ((12 * β + V 0 2)) (0))) 75 0 (upd (jh_I (ju_I (ju_I (h3) 73 0 (upd (jh_I (h3) 73 0) ((12 * β + V 0 2)) (0))) 74 0 (upd (jh_I (ju_I (h3) 73 0 (upd (jh_I (h3) 73 0) ((12 * β + V 0 2)) (0))) 74 0) ((12 * β + V 0 2)) (0))) 75 0) ((12 * β + V 0 2)) (nI 1))) 76 0) ((12 * β + V 0 2)) (nI 1))) 66 0 β = nI (V 0 0) from (congrFun ((g3.1 66 0 (by decide)).trans ((g2.1 66 0 (by decide)).trans (g1.1 66 0 (by decide)))) β).trans a1, show (6 : Int32) * nI β = nI (6 * β) from jn_mul rfl rfl]
  refine jr_cv3 (mc' := 0) (ms' := 0) rfl jm_MD_here_n jm_MD_here_f rfl rfl rfl rfl rfl rfl rfl (Nat.zero_le _) (Nat.zero_le _) ?_
  refine eM_here_m (B := B) (sz := sz) (t := t + 2) m3 hβ hWm (fun j hj => (congrFun ((congrFun (congrFun (congrArg (·.1) g3.2.1) 90) 0).trans ((g2.2.1 90 0 (by decide)).trans (g1.2.1 90 0 (by decide)))) _).trans ((a2 j hj).2.2)) (by omega) ?_
  refine jr_cv1 (mc' := 0) (ms' := 0) rfl jm_MD_told_n jm_MD_told_f rfl rfl rfl rfl rfl rfl rfl (Nat.zero_le _) (Nat.zero_le _) ?_
  refine eM_told_b e3 ?_
  refine jr_iast (len := 24) rfl rfl rfl (by omega) ?_
  refine jr_aload rfl rfl ?_
  refine jr_cv0 (mc' := 0) (ms' := 0) rfl jm_MD_isGood_n jm_MD_isGood_f rfl rfl rfl rfl rfl rfl rfl (Nat.zero_le _) (Nat.zero_le _) ?_
  show jx_W (jm_MD_isGood, _, _, _, _, _, _) _ 0 0 0 [some _] [] _
  refine jr_aload rfl rfl ?_
  refine jr_getI rfl rfl ?_
  refine jr_if_ne rfl (fun _ => ?_) (fun z => absurd z e3)
  refine jr_ic rfl ?_
  refine jr_zret rfl rfl rfl (Nat.zero_le _) (Nat.zero_le _) ?_
  refine jr_if_eq rfl (fun _ => ?_) (fun z => absurd (by decide) z)
  refine jr_aload rfl rfl ?_
  refine jr_getR rfl rfl rfl rfl (Or.inl rfl) ?_
  refine jr_iload rfl rfl ?_
  refine jr_aload rfl rfl ?_
  refine jr_lc rfl ?_
  refine jr_cv1 (mc' := 0) (ms' := 0) rfl jm_MD_has_n jm_MD_has_f rfl rfl rfl rfl rfl rfl rfl (Nat.zero_le _) (Nat.zero_le _) ?_
  refine eM_has_b e3 ?_
  refine jr_zast (len := 24) rfl rfl rfl (by omega) ?_
  refine jr_aload rfl rfl ?_
  refine jr_getR rfl rfl rfl rfl (Or.inl rfl) ?_
  refine jr_aload rfl rfl ?_
  refine jr_getI rfl rfl ?_
  refine jr_dup2 rfl ?_
  refine jr_iald (len := 2) rfl rfl b3 (by omega) ?_
  refine jr_ic rfl ?_
  refine jr_iadd rfl ?_
  rw [show jh_I (ju_I (ju_I (ju_I (ju_I (ju_I (ju_I (h3) 73 0 (upd (jh_I (h3) 73 0) ((12 * β + V 0 2)) (0))) 74 0 (upd (jh_I (ju_I (h3) 73 0 (upd (jh_I (h3) 73 0) ((12 * β + V 0 2)) (0))) 74 0) ((12 * β + V 0 2)) (0))) 75 0 (upd (jh_I (ju_I (ju_I (h3) 73 0 (upd (jh_I (h3) 73 0) ((12 * β + V 0 2)) (0))) 74 0 (upd (jh_I (ju_I (h3) 73 0 (upd (jh_I (h3) 73 0) ((12 * β + V 0 2)) (0))) 74 0) ((12 * β + V 0 2)) (0))) 75 0) ((12 * β + V 0 2)) (nI 1))) 76 0 (upd (jh_I (ju_I (ju_I (ju_I (h3) 73 0 (upd (jh_I (h3) 73 0) ((12 * β + V 0 2)) (0))) 74 0 (upd (jh_I (ju_I (h3) 73 0 (upd (jh_I (h3) 73 0) ((12 * β + V 0 2)) (0))) 74 0) ((12 * β + V 0 2)) (0))) 75 0 (upd (jh_I (ju_I (ju_I (h3) 73 0 (upd (jh_I (h3) 73 0) ((12 * β + V 0 2)) (0))) 74 0 (upd (jh_I (ju_I (h3) 73 0 (upd (jh_I (h3) 73 0) ((12 * β + V 0 2)) (0))) 74 0) ((12 * β + V 0 2)) (0))) 75 0) ((12 * β + V 0 2)) (nI 1))) 76 0) ((12 * β + V 0 2)) (nI 1))) 77 0 (upd (jh_I (ju_I (ju_I (ju_I (ju_I (h3) 73 0 (upd (jh_I (h3) 73 0) ((12 * β + V 0 2)) (0))) 74 0 (upd (jh_I (ju_I (h3) 73 0 (upd (jh_I (h3) 73 0) ((12 * β + V 0 2)) (0))) 74 0) ((12 * β + V 0 2)) (0))) 75 0 (upd (jh_I (ju_I (ju_I (h3) 73 0 (upd (jh_I (h3) 73 0) ((12 * β + V 0 2)) (0))) 74 0 (upd (jh_I (ju_I (h3) 73 0 (upd (jh_I (h3) 73 0) ((12 * β + V 0 2)) (0))) 74 0) ((12 * β + V 0 2)) (0))) 75 0) ((12 * β + V 0 2)) (nI 1))) 76 0 (upd (jh_I (ju_I (ju_I (ju_I (h3) 73 0 (upd (jh_I (h3) 73 0) ((12 * β + V 0 2)) (0))) 74 0 (upd (jh_I (ju_I (h3) 73 0 (upd (jh_I (h3) 73 0) ((12 * β + V 0 2)) (0))) 74 0) ((12 * β + V 0 2)) (0))) 75 0 (upd (jh_I (ju_I (ju_I (h3) 73 0 (upd (jh_I (h3) 73 0) ((12 * β + V 0 2)) (0))) 74 0 (upd (jh_I (ju_I (h3) 73 0 (upd (jh_I (h3) 73 0) ((12 * β + V 0 2)) (0))) 74 0) ((12 * β + V 0 2)) (0))) 75 0) ((12 * β + V 0 2)) (nI 1))) 76 0) ((12 * β + V 0 2)) (nI 1))) 77 0) ((12 * β + V 0 2)) (0))) 84 0 (upd (jh_I (ju_I (ju_I (ju_I (ju_I (ju_I (h3) 73 0 (upd (jh_I (h3) 73 0) ((12 * β + V 0 2)) (0))) 74 0 (upd (jh_I (ju_I (h3) 73 0 (upd (jh_I (h3) 73 0) ((12 * β + V 0 2)) (0))) 74 0) ((12 * β + V 0 2)) (0))) 75 0 (upd (jh_I (ju_I (ju_I (h3) 73 0 (upd (jh_I (h3) 73 0) ((12 * β + V 0 2)) (0))) 74 0 (upd (jh_I (ju_I (h3) 73 0 (upd (jh_I (h3) 73 0) ((12 * β + V 0 2)) (0))) 74 0) ((12 * β + V 0 2)) (0))) 75 0) ((12 * β + V 0 2)) (nI 1))) 76 0 (upd (jh_I (ju_I (ju_I (ju_I (h3) 73 0 (upd (jh_I (h3) 73 0) ((12 * β + V 0 2)) (0))) 74 0 (upd (jh_I (ju_I (h3) 73 0 (upd (jh_I (h3) 73 0) ((12 * β + V 0 2)) (0))) 74 0) ((12 * β + V 0 2)) (0))) 75 0 (upd (jh_I (ju_I (ju_I (h3) 73 0 (upd (jh_I (h3) 73 0) ((12 * β + V 0 2)) (0))) 74 0 (upd (jh_I (ju_I (h3) 73 0 (upd (jh_I (h3) 73 0) ((12 * β + V 0 2)) (0))) 74 0) ((12 * β + V 0 2)) (0))) 75 0) ((12 * β + V 0 2)) (nI 1))) 76 0) ((12 * β + V 0 2)) (nI 1))) 77 0 (upd (jh_I (ju_I (ju_I (ju_I (ju_I (h3) 73 0 (upd (jh_I (h3) 73 0) ((12 * β + V 0 2)) (0))) 74 0 (upd (jh_I (ju_I (h3) 73 0 (upd (jh_I (h3) 73 0) ((12 * β + V 0 2)) (0))) 74 0) ((12 * β + V 0 2)) (0))) 75 0 (upd (jh_I (ju_I (ju_I (h3) 73 0 (upd (jh_I (h3) 73 0) ((12 * β + V 0 2)) (0))) 74 0 (upd (jh_I (ju_I (h3) 73 0 (upd (jh_I (h3) 73 0) ((12 * β + V 0 2)) (0))) 74 0) ((12 * β + V 0 2)) (0))) 75 0) ((12 * β + V 0 2)) (nI 1))) 76 0 (upd (jh_I (ju_I (ju_I (ju_I (h3) 73 0 (upd (jh_I (h3) 73 0) ((12 * β + V 0 2)) (0))) 74 0 (upd (jh_I (ju_I (h3) 73 0 (upd (jh_I (h3) 73 0) ((12 * β + V 0 2)) (0))) 74 0) ((12 * β + V 0 2)) (0))) 75 0 (upd (jh_I (ju_I (ju_I (h3) 73 0 (upd (jh_I (h3) 73 0) ((12 * β + V 0 2)) (0))) 74 0 (upd (jh_I (ju_I (h3) 73 0 (upd (jh_I (h3) 73 0) ((12 * β + V 0 2)) (0))) 74 0) ((12 * β + V 0 2)) (0))) 75 0) ((12 * β + V 0 2)) (nI 1))) 76 0) ((12 * β + V 0 2)) (nI 1))) 77 0) ((12 * β + V 0 2)) (0))) 84 0) ((12 * β + V 0 2)) (0 &&& 1))) 68 0 β = nI (V 0 2) from (congrFun ((g3.1 68 0 (by decide)).trans ((g2.1 68 0 (by decide)).trans (g1.1 68 0 (by decide)))) β).trans c1, show nI (V 0 2) + 1 = nI (V 0 2 + 1) from jn_S _]
  refine jr_iast (len := 2) rfl rfl b3 (by omega) ?_
  refine jr_vret rfl rfl (Nat.zero_le _) (Nat.zero_le _) ?_
  exact k _ (jMF_I (a := 68) (w := 1) (jMF_I (a := 84) (w := 12) (jMF_I (a := 77) (w := 12) (jMF_I (a := 76) (w := 12) (jMF_I (a := 75) (w := 12) (jMF_I (a := 74) (w := 12) (jMF_I (a := 73) (w := 12) (jMF_ft (jMF_G (jMF_L (a := 92) (w := 12) (jMF_G (F) g1) (by decide) (by decide) (by omega) (by omega)) g2) g3) (by decide) (by decide) (by omega) (by omega)) (by decide) (by decide) (by omega) (by omega)) (by decide) (by decide) (by omega) (by omega)) (by decide) (by decide) (by omega) (by omega)) (by decide) (by decide) (by omega) (by omega)) (by decide) (by decide) (by omega) (by omega)) (by decide) (by decide) (by omega) (by omega)) g3.2.2.2.1 g3.2.2.2.2

set_option maxHeartbeats 800000 in
set_option maxRecDepth 100000 in
theorem eM_due_b4 {d : Nat} {h : jx_H} {Q : Option jx_V → jx_H → Prop} {h0 : jx_H} {B : Nat → Int32} {sz β t : Nat} {V : Nat → Nat → Nat} {W : Nat → Nat → List Nat} {D : Nat → Int32} (x : jML h B sz β t V W D) (F : jMF β h0 h) (hβ : β < 2) (hn : V 0 2 < 12) (h5 : V 0 1 ≤ 5) (h6 : V 0 0 ≤ 6) (hW : jnW (W 2) (V 0 2)) (hWp : jnW (W 1) (V 0 1)) (hWm : jnW (W 0) (V 0 0)) (k0 : jT_K B sz t = 3) (n0 : jnF (W 2) (jT_wd B sz (jT_p B sz t)) (V 0 2) 0 = none) (k1 : jT_K B sz (t + 1) = 113) (k2 : jT_K B sz (t + 2) = 3) (j2 : jnF (W 1) (jT_wd B sz (jT_p B sz (t + 2))) (V 0 1) 0 = none) (k : ∀ h', jMF β h0 h' → jh_I h' 11 0 4 = 5 → jPl h' (jT_p B sz (t + 2)) → Q none h')  : jx_Ev jm_MD_readDue (d + 8) 0 0 false 1 [jv_r 11 0] h Q := by
  show jx_W (jm_MD_readDue, d + 8, 0, 0, false, 1, _) Q 0 0 0 [some (jv_r 11 0), none] [] _
  obtain ⟨⟨t0, m0, f0, b0, -, -, -, -⟩, ⟨⟨a1, a2⟩, ⟨p1, p2⟩, ⟨c1, c2⟩, -⟩, -⟩ := id x
  have xb := b0
  have hr : ∀ j, j < V 0 2 → jh_L h 92 0 (12 * β + j) = jT_key (W 2 j) := fun j hj => (c2 j hj).2
  refine jr_ic rfl ?_
  refine jr_aload rfl rfl ?_
  refine jr_getI rfl rfl ?_
  refine jr_imul rfl ?_
  refine jr_aload rfl rfl ?_
  refine jr_getR rfl rfl rfl rfl (Or.inl rfl) ?_
  refine jr_aload rfl rfl ?_
  refine jr_getI rfl rfl ?_
  refine jr_iald (len := 2) rfl rfl b0 (by omega) ?_
  refine jr_iadd rfl ?_
  rw [xb, c1, show (12 : Int32) * nI β + nI (V 0 2) = nI (12 * β + V 0 2) from jn_add (jn_mul rfl rfl) rfl]
  refine jr_ist1 rfl rfl ?_
  refine jr_aload rfl rfl ?_
  refine jr_getR rfl rfl rfl rfl (Or.inl rfl) ?_
  refine jr_iload rfl rfl ?_
  refine jr_aload rfl rfl ?_
  refine jr_aload rfl rfl ?_
  refine jr_aload rfl rfl ?_
  refine jr_getR rfl rfl rfl rfl (Or.inl rfl) ?_
  refine jr_ic rfl ?_
  refine jr_aload rfl rfl ?_
  refine jr_getI rfl rfl ?_
  refine jr_imul rfl ?_
  refine jr_aload rfl rfl ?_
  refine jr_getR rfl rfl rfl rfl (Or.inl rfl) ?_
  refine jr_aload rfl rfl ?_
  refine jr_getI rfl rfl ?_
  refine jr_iald (len := 2) rfl rfl b0 (by omega) ?_
  rw [xb, c1, show (12 : Int32) * nI β = nI (12 * β) from jn_mul rfl rfl]
  refine jr_cv3 (mc' := 0) (ms' := 0) rfl jm_MD_here_n jm_MD_here_f rfl rfl rfl rfl rfl rfl rfl (Nat.zero_le _) (Nat.zero_le _) ?_
  refine eM_here_d m0 hβ hW hr (by omega) ?_
  rw [if_pos k0, n0]
  refine jr_cv1 (mc' := 0) (ms' := 0) rfl jm_MD_fresh_n jm_MD_fresh_f rfl rfl rfl rfl rfl rfl rfl (Nat.zero_le _) (Nat.zero_le _) ?_
  refine eM_fresh_y (B := B) (sz := sz) (t := t) t0 m0 f0 k0 (fun h1 g1 m1 => ?_)
  have t1 := jX_t_MG g1 t0
  have f1 : jh_I h1 11 0 4 = 0 := (g1.2.2.2 4 (by decide)).trans f0
  have b1 : jh_I h1 11 0 44 = nI β := (g1.2.2.2 44 (by decide)).trans b0
  refine jr_last (len := 24) rfl rfl rfl (by omega) ?_
  refine jr_aload rfl rfl ?_
  refine jr_aload rfl rfl ?_
  refine jr_lc rfl ?_
  refine jr_cv1 (mc' := 0) (ms' := 0) rfl jm_MD_isWord_n jm_MD_isWord_f rfl rfl rfl rfl rfl rfl rfl (Nat.zero_le _) (Nat.zero_le _) ?_
  refine eM_isWord (B := B) (sz := sz) (t := t + 1) m1 (i := 13) (by decide) jT_W13 ?_
  refine jr_cv1 (mc' := 0) (ms' := 0) rfl jm_MD_must_n jm_MD_must_f rfl rfl rfl rfl rfl rfl rfl (Nat.zero_le _) (Nat.zero_le _) ?_
  refine eM_must_y (B := B) (sz := sz) (t := t + 1) t1 m1 f1 (by rw [if_pos k1]; decide) (fun h2 g2 m2 => ?_)
  have t2 := jX_t_MG g2 t1
  have f2 : jh_I h2 11 0 4 = 0 := (g2.2.2.2 4 (by decide)).trans f1
  have b2 : jh_I h2 11 0 44 = nI β := (g2.2.2.2 44 (by decide)).trans b1
  refine jr_aload rfl rfl ?_
  refine jr_getR rfl rfl rfl rfl (Or.inl rfl) ?_
  refine jr_iload rfl rfl ?_
  refine jr_aload rfl rfl ?_
  refine jr_aload rfl rfl ?_
  refine jr_cv0 (mc' := 0) (ms' := 0) rfl jm_MD_personHere_n jm_MD_personHere_f rfl rfl rfl rfl rfl rfl rfl (Nat.zero_le _) (Nat.zero_le _) ?_
  show jx_W (jm_MD_personHere, _, _, _, _, _, _) _ 0 0 0 [some _] [] _
  refine jr_aload rfl rfl ?_
  refine jr_aload rfl rfl ?_
  refine jr_getR rfl rfl rfl rfl (Or.inl rfl) ?_
  refine jr_ic rfl ?_
  refine jr_aload rfl rfl ?_
  refine jr_getI rfl rfl ?_
  refine jr_imul rfl ?_
  refine jr_aload rfl rfl ?_
  refine jr_getR rfl rfl rfl rfl (Or.inl rfl) ?_
  refine jr_aload rfl rfl ?_
  refine jr_getI rfl rfl ?_
  refine jr_iald (len := 2) rfl rfl (by first | exact b3 | exact b2) (by omega) ?_
  rw [show jh_I (h2) 11 0 44 = nI β from b2, show jh_I (h2) 67 0 β = nI (V 0 1) from (congrFun ((g2.1 67 0 (by decide)).trans (g1.1 67 0 (by decide))) β).trans p1, show (5 : Int32) * nI β = nI (5 * β) from jn_mul rfl rfl]
  refine jr_cv3 (mc' := 0) (ms' := 0) rfl jm_MD_here_n jm_MD_here_f rfl rfl rfl rfl rfl rfl rfl (Nat.zero_le _) (Nat.zero_le _) ?_
  refine eM_here_p (B := B) (sz := sz) (t := t + 2) m2 hβ hWp (fun j hj => (congrFun ((g2.2.1 91 0 (by decide)).trans (g1.2.1 91 0 (by decide))) _).trans ((p2 j hj).2)) (by omega) ?_
  refine jr_iret rfl rfl (Nat.zero_le _) (Nat.zero_le _) ?_
  rw [if_pos k2, j2]
  refine jr_cv1 (mc' := 0) (ms' := 0) rfl jm_MD_told_n jm_MD_told_f rfl rfl rfl rfl rfl rfl rfl (Nat.zero_le _) (Nat.zero_le _) ?_
  refine eM_told_u (B := B) (sz := sz) (t := t + 2) t2 m2 f2 k2 (fun h3 g3 => ?_)
  have e3 : ¬ jh_I h3 11 0 4 = 0 := by rw [g3.2.2.2.1]; exact (by decide)
  have m3 := jT_mc_ft g3 m2
  have b3 : jh_I h3 11 0 44 = nI β := (g3.2.2.1 44 (by decide) (by decide)).trans b2
  refine jr_iast (len := 24) rfl rfl rfl (by omega) ?_
  refine jr_aload rfl rfl ?_
  refine jr_cv0 (mc' := 0) (ms' := 0) rfl jm_MD_isGood_n jm_MD_isGood_f rfl rfl rfl rfl rfl rfl rfl (Nat.zero_le _) (Nat.zero_le _) ?_
  show jx_W (jm_MD_isGood, _, _, _, _, _, _) _ 0 0 0 [some _] [] _
  refine jr_aload rfl rfl ?_
  refine jr_getI rfl rfl ?_
  refine jr_if_ne rfl (fun _ => ?_) (fun z => absurd z e3)
  refine jr_ic rfl ?_
  refine jr_zret rfl rfl rfl (Nat.zero_le _) (Nat.zero_le _) ?_
  refine jr_if_eq rfl (fun _ => ?_) (fun z => absurd (by decide) z)
  refine jr_aload rfl rfl ?_
  refine jr_aload rfl rfl ?_
  refine jr_lc rfl ?_
  refine jr_cv1 (mc' := 0) (ms' := 0) rfl jm_MD_isWord_n jm_MD_isWord_f rfl rfl rfl rfl rfl rfl rfl (Nat.zero_le _) (Nat.zero_le _) ?_
  refine eM_isWord (B := B) (sz := sz) (t := t + 2) m3 (i := 8) (by decide) jT_W8 ?_
  refine jr_cv1 (mc' := 0) (ms' := 0) rfl jm_MD_must_n jm_MD_must_f rfl rfl rfl rfl rfl rfl rfl (Nat.zero_le _) (Nat.zero_le _) ?_
  refine eM_must_b e3 ?_
  refine jr_aload rfl rfl ?_
  refine jr_getR rfl rfl rfl rfl (Or.inl rfl) ?_
  refine jr_iload rfl rfl ?_
  refine jr_aload rfl rfl ?_
  refine jr_aload rfl rfl ?_
  refine jr_cv0 (mc' := 0) (ms' := 0) rfl jm_MD_personHere_n jm_MD_personHere_f rfl rfl rfl rfl rfl rfl rfl (Nat.zero_le _) (Nat.zero_le _) ?_
  show jx_W (jm_MD_personHere, _, _, _, _, _, _) _ 0 0 0 [some _] [] _
  refine jr_aload rfl rfl ?_
  refine jr_aload rfl rfl ?_
  refine jr_getR rfl rfl rfl rfl (Or.inl rfl) ?_
  refine jr_ic rfl ?_
  refine jr_aload rfl rfl ?_
  refine jr_getI rfl rfl ?_
  refine jr_imul rfl ?_
  refine jr_aload rfl rfl ?_
  refine jr_getR rfl rfl rfl rfl (Or.inl rfl) ?_
  refine jr_aload rfl rfl ?_
  refine jr_getI rfl rfl ?_
  refine jr_iald (len := 2) rfl rfl (by first | exact b3 | exact b2) (by omega) ?_
  rw [show jh_I (ju_I (h3) 73 0 (upd (jh_I (h3) 73 0) ((12 * β + V 0 2)) (0))) 11 0 44 = nI β from b3, show jh_I (ju_I (h3) 73 0 (upd (jh_I (h3) 73 0) ((12 * β + V 0 2)) (0))) 67 0 β = nI (V 0 1) from (congrFun ((g3.1 67 0 (by decide)).trans ((g2.1 67 0 (by decide)).trans (g1.1 67 0 (by decide)))) β).trans p1, show (5 : Int32) * nI β = nI (5 * β) from jn_mul rfl rfl]
  refine jr_cv3 (mc' := 0) (ms' := 0) rfl jm_MD_here_n jm_MD_here_f rfl rfl rfl rfl rfl rfl rfl (Nat.zero_le _) (Nat.zero_le _) ?_
  refine eM_here_p (B := B) (sz := sz) (t := t + 2) m3 hβ hWp (fun j hj => (congrFun ((congrFun (congrFun (congrArg (·.1) g3.2.1) 91) 0).trans ((g2.2.1 91 0 (by decide)).trans (g1.2.1 91 0 (by decide)))) _).trans ((p2 j hj).2)) (by omega) ?_
  refine jr_iret rfl rfl (Nat.zero_le _) (Nat.zero_le _) ?_
  refine jr_cv1 (mc' := 0) (ms' := 0) rfl jm_MD_told_n jm_MD_told_f rfl rfl rfl rfl rfl rfl rfl (Nat.zero_le _) (Nat.zero_le _) ?_
  refine eM_told_b e3 ?_
  refine jr_iast (len := 24) rfl rfl rfl (by omega) ?_
  refine jr_aload rfl rfl ?_
  refine jr_cv0 (mc' := 0) (ms' := 0) rfl jm_MD_isGood_n jm_MD_isGood_f rfl rfl rfl rfl rfl rfl rfl (Nat.zero_le _) (Nat.zero_le _) ?_
  show jx_W (jm_MD_isGood, _, _, _, _, _, _) _ 0 0 0 [some _] [] _
  refine jr_aload rfl rfl ?_
  refine jr_getI rfl rfl ?_
  refine jr_if_ne rfl (fun _ => ?_) (fun z => absurd z e3)
  refine jr_ic rfl ?_
  refine jr_zret rfl rfl rfl (Nat.zero_le _) (Nat.zero_le _) ?_
  refine jr_if_eq rfl (fun _ => ?_) (fun z => absurd (by decide) z)
  refine jr_aload rfl rfl ?_
  refine jr_cv0 (mc' := 0) (ms' := 0) rfl jm_MD_isGood_n jm_MD_isGood_f rfl rfl rfl rfl rfl rfl rfl (Nat.zero_le _) (Nat.zero_le _) ?_
  show jx_W (jm_MD_isGood, _, _, _, _, _, _) _ 0 0 0 [some _] [] _
  refine jr_aload rfl rfl ?_
  refine jr_getI rfl rfl ?_
  refine jr_if_ne rfl (fun _ => ?_) (fun z => absurd z e3)
  refine jr_ic rfl ?_
  refine jr_zret rfl rfl rfl (Nat.zero_le _) (Nat.zero_le _) ?_
  refine jr_if_eq rfl (fun _ => ?_) (fun z => absurd (by decide) z)
  refine jr_aload rfl rfl ?_
  refine jr_getR rfl rfl rfl rfl (Or.inl rfl) ?_
  refine jr_iload rfl rfl ?_
  refine jr_aload rfl rfl ?_
  refine jr_lc rfl ?_
  refine jr_ic rfl ?_
  refine jr_ic rfl ?_
  refine jr_cv3 (mc' := 0) (ms' := 0) rfl jm_MD_after_n jm_MD_after_f rfl rfl rfl rfl rfl rfl rfl (Nat.zero_le _) (Nat.zero_le _) ?_
  show jx_W (jm_MD_after, _, _, _, _, _, _) _ 0 0 0 [some _, some _, none, some _, some _] [] _
  refine jr_aload rfl rfl ?_
  refine jr_aload rfl rfl ?_
  refine jr_lload rfl rfl ?_
  refine jr_cv1 (mc' := 0) (ms' := 0) rfl jm_MD_isWord_n jm_MD_isWord_f rfl rfl rfl rfl rfl rfl rfl (Nat.zero_le _) (Nat.zero_le _) ?_
  refine eM_isWord (B := B) (sz := sz) (t := t + 2) m3 (i := 14) (by decide) jT_W14 ?_
  refine jr_cv1 (mc' := 0) (ms' := 0) rfl jm_MD_must_n jm_MD_must_f rfl rfl rfl rfl rfl rfl rfl (Nat.zero_le _) (Nat.zero_le _) ?_
  refine eM_must_b e3 ?_
  refine jr_aload rfl rfl ?_
  refine jr_iload rfl rfl ?_
  refine jr_iload rfl rfl ?_
  refine jr_cv2 (mc' := 0) (ms' := 0) rfl jm_MD_numeral_n jm_MD_numeral_f rfl rfl rfl rfl rfl rfl rfl (Nat.zero_le _) (Nat.zero_le _) ?_
  refine eM_num_b (lo := 1) (hi := 99) e3 ?_
  refine jr_iret rfl rfl (Nat.zero_le _) (Nat.zero_le _) ?_
  refine jr_iast (len := 24) rfl rfl rfl (by omega) ?_
  refine jr_aload rfl rfl ?_
  refine jr_getR rfl rfl rfl rfl (Or.inl rfl) ?_
  refine jr_iload rfl rfl ?_
  refine jr_aload rfl rfl ?_
  refine jr_lc rfl ?_
  refine jr_ic rfl ?_
  refine jr_ic rfl ?_
  refine jr_cv3 (mc' := 0) (ms' := 0) rfl jm_MD_after_n jm_MD_after_f rfl rfl rfl rfl rfl rfl rfl (Nat.zero_le _) (Nat.zero_le _) ?_
  show jx_W (jm_MD_after, _, _, _, _, _, _) _ 0 0 0 [some _, some _, none, some _, some _] [] _
  refine jr_aload rfl rfl ?_
  refine jr_aload rfl rfl ?_
  refine jr_lload rfl rfl ?_
  refine jr_cv1 (mc' := 0) (ms' := 0) rfl jm_MD_isWord_n jm_MD_isWord_f rfl rfl rfl rfl rfl rfl rfl (Nat.zero_le _) (Nat.zero_le _) ?_
  refine eM_isWord (B := B) (sz := sz) (t := t + 2) m3 (i := 15) (by decide) jT_W15 ?_
  refine jr_cv1 (mc' := 0) (ms' := 0) rfl jm_MD_must_n jm_MD_must_f rfl rfl rfl rfl rfl rfl rfl (Nat.zero_le _) (Nat.zero_le _) ?_
  refine eM_must_b e3 ?_
  refine jr_aload rfl rfl ?_
  refine jr_iload rfl rfl ?_
  refine jr_iload rfl rfl ?_
  refine jr_cv2 (mc' := 0) (ms' := 0) rfl jm_MD_numeral_n jm_MD_numeral_f rfl rfl rfl rfl rfl rfl rfl (Nat.zero_le _) (Nat.zero_le _) ?_
  refine eM_num_b (lo := 1) (hi := 31) e3 ?_
  refine jr_iret rfl rfl (Nat.zero_le _) (Nat.zero_le _) ?_
  refine jr_iast (len := 24) rfl rfl rfl (by omega) ?_
  refine jr_aload rfl rfl ?_
  refine jr_aload rfl rfl ?_
  refine jr_lc rfl ?_
  refine jr_cv1 (mc' := 0) (ms' := 0) rfl jm_MD_isWord_n jm_MD_isWord_f rfl rfl rfl rfl rfl rfl rfl (Nat.zero_le _) (Nat.zero_le _) ?_
  refine eM_isWord (B := B) (sz := sz) (t := t + 2) m3 (i := 16) (by decide) jT_W16 ?_
  refine jr_cv1 (mc' := 0) (ms' := 0) rfl jm_MD_must_n jm_MD_must_f rfl rfl rfl rfl rfl rfl rfl (Nat.zero_le _) (Nat.zero_le _) ?_
  refine eM_must_b e3 ?_
  refine jr_aload rfl rfl ?_
  refine jr_getR rfl rfl rfl rfl (Or.inl rfl) ?_
  refine jr_iload rfl rfl ?_
  refine jr_aload rfl rfl ?_
  refine jr_aload rfl rfl ?_
  refine jr_aload rfl rfl ?_
  refine jr_getR rfl rfl rfl rfl (Or.inl rfl) ?_
  refine jr_ic rfl ?_
  refine jr_aload rfl rfl ?_
  refine jr_getI rfl rfl ?_
  refine jr_imul rfl ?_
  refine jr_aload rfl rfl ?_
  refine jr_getR rfl rfl rfl rfl (Or.inl rfl) ?_
  refine jr_aload rfl rfl ?_
  refine jr_getI rfl rfl ?_
  refine jr_iald (len := 2) rfl rfl b3 (by omega) ?_
  rw [show jh_I (ju_I (ju_I (ju_I (ju_I (h3) 73 0 (upd (jh_I (h3) 73 0) ((12 * β + V 0 2)) (0))) 74 0 (upd (jh_I (ju_I (h3) 73 0 (upd (jh_I (h3) 73 0) ((12 * β + V 0 2)) (0))) 74 0) ((12 * β + V 0 2)) (0))) 75 0 (upd (jh_I (ju_I (ju_I (h3) 73 0 (upd (jh_I (h3) 73 0) ((12 * β + V 0 2)) (0))) 74 0 (upd (jh_I (ju_I (h3) 73 0 (upd (jh_I (h3) 73 0) ((12 * β + V 0 2)) (0))) 74 0) ((12 * β + V 0 2)) (0))) 75 0) ((12 * β + V 0 2)) (nI 1))) 76 0 (upd (jh_I (ju_I (ju_I (ju_I (h3) 73 0 (upd (jh_I (h3) 73 0) ((12 * β + V 0 2)) (0))) 74 0 (upd (jh_I (ju_I (h3) 73 0 (upd (jh_I (h3) 73 0) ((12 * β + V 0 2)) (0))) 74 0) ((12 * β + V 0 2)) (0))) 75 0 (upd (jh_I (ju_I (ju_I (h3) 73 0 (upd (jh_I (h3) 73 0) ((12 * β + V 0 2)) (0))) 74 0 (upd (jh_I (ju_I (h3) 73 0 (upd (jh_I (h3) 73 0) ((12 * β + V 0 2)) (0))) 74 0) ((12 * β + V 0 2)) (0))) 75 0) ((12 * β + V 0 2)) (nI 1))) 76 0) ((12 * β + V 0 2)) (nI 1))) 11 0 44 = nI β from b3, show jh_I (ju_I (ju_I (ju_I (ju_I (h3) 73 0 (upd (jh_I (h3) 73 0) ((12 * β + V 0 2)) (0))) 74 0 (upd (jh_I (ju_I (h3) 73 0 (upd (jh_I (h3) 73 0) ((12 * β + V 0 2)) (0))) 74 0) ((12 * β + V 0 2)) (0))) 75 0 (upd (jh_I (ju_I (ju_I (h3) 73 0 (upd (jh_I (h3) 73 0) ((12 * β + V 0 2)) (0))) 74 0 (upd (jh_I (ju_I (h3) 73 0 (upd (jh_I (h3) 73 0) ((12 * β + V 0 2)) (0))) 74 0) ((12 * β + V 0 2)) (0))) 75 0) ((12 * β + V 0 2)) (nI 1))) 76 0 (upd (jh_I (ju_I (ju_I (ju_I (h3) 73 0 (upd (jh_I (h3) 73 0) ((12 * β + V 0 2)) (0))) 74 0 (upd (jh_I (ju_I (h3) 73 0 (upd (jh_I (h3) 73 0) ((12 * β + V 0 2)) (0))) 74 0) ((12 * β + V 0 2)) (0))) 75 0 (upd (jh_I (ju_I (ju_I (h3) 73 0 (upd (jh_I (h3) 73 0) ((12 * β + V 0 2)) (0))) 74 0 (upd (jh_I (ju_I (h3) 73 0 (upd (jh_I (h3) 73 0) ((12 * β + V 0 2)) (0))) 74 0) ((12 * β + V 0 2)) (0))) 75 0) ((12 * β + V 0 2)) (nI 1))) 76 0) ((12 * β + V 0 2)) (nI 1))) 66 0 β = nI (V 0 0) from (congrFun ((g3.1 66 0 (by decide)).trans ((g2.1 66 0 (by decide)).trans (g1.1 66 0 (by decide)))) β).trans a1, show (6 : Int32) * nI β = nI (6 * β) from jn_mul rfl rfl]
  refine jr_cv3 (mc' := 0) (ms' := 0) rfl jm_MD_here_n jm_MD_here_f rfl rfl rfl rfl rfl rfl rfl (Nat.zero_le _) (Nat.zero_le _) ?_
  refine eM_here_m (B := B) (sz := sz) (t := t + 2) m3 hβ hWm (fun j hj => (congrFun ((congrFun (congrFun (congrArg (·.1) g3.2.1) 90) 0).trans ((g2.2.1 90 0 (by decide)).trans (g1.2.1 90 0 (by decide)))) _).trans ((a2 j hj).2.2)) (by omega) ?_
  refine jr_cv1 (mc' := 0) (ms' := 0) rfl jm_MD_told_n jm_MD_told_f rfl rfl rfl rfl rfl rfl rfl (Nat.zero_le _) (Nat.zero_le _) ?_
  refine eM_told_b e3 ?_
  refine jr_iast (len := 24) rfl rfl rfl (by omega) ?_
  refine jr_aload rfl rfl ?_
  refine jr_cv0 (mc' := 0) (ms' := 0) rfl jm_MD_isGood_n jm_MD_isGood_f rfl rfl rfl rfl rfl rfl rfl (Nat.zero_le _) (Nat.zero_le _) ?_
  show jx_W (jm_MD_isGood, _, _, _, _, _, _) _ 0 0 0 [some _] [] _
  refine jr_aload rfl rfl ?_
  refine jr_getI rfl rfl ?_
  refine jr_if_ne rfl (fun _ => ?_) (fun z => absurd z e3)
  refine jr_ic rfl ?_
  refine jr_zret rfl rfl rfl (Nat.zero_le _) (Nat.zero_le _) ?_
  refine jr_if_eq rfl (fun _ => ?_) (fun z => absurd (by decide) z)
  refine jr_aload rfl rfl ?_
  refine jr_getR rfl rfl rfl rfl (Or.inl rfl) ?_
  refine jr_iload rfl rfl ?_
  refine jr_aload rfl rfl ?_
  refine jr_lc rfl ?_
  refine jr_cv1 (mc' := 0) (ms' := 0) rfl jm_MD_has_n jm_MD_has_f rfl rfl rfl rfl rfl rfl rfl (Nat.zero_le _) (Nat.zero_le _) ?_
  refine eM_has_b e3 ?_
  refine jr_zast (len := 24) rfl rfl rfl (by omega) ?_
  refine jr_aload rfl rfl ?_
  refine jr_getR rfl rfl rfl rfl (Or.inl rfl) ?_
  refine jr_aload rfl rfl ?_
  refine jr_getI rfl rfl ?_
  refine jr_dup2 rfl ?_
  refine jr_iald (len := 2) rfl rfl b3 (by omega) ?_
  refine jr_ic rfl ?_
  refine jr_iadd rfl ?_
  rw [show jh_I (ju_I (ju_I (ju_I (ju_I (ju_I (ju_I (h3) 73 0 (upd (jh_I (h3) 73 0) ((12 * β + V 0 2)) (0))) 74 0 (upd (jh_I (ju_I (h3) 73 0 (upd (jh_I (h3) 73 0) ((12 * β + V 0 2)) (0))) 74 0) ((12 * β + V 0 2)) (0))) 75 0 (upd (jh_I (ju_I (ju_I (h3) 73 0 (upd (jh_I (h3) 73 0) ((12 * β + V 0 2)) (0))) 74 0 (upd (jh_I (ju_I (h3) 73 0 (upd (jh_I (h3) 73 0) ((12 * β + V 0 2)) (0))) 74 0) ((12 * β + V 0 2)) (0))) 75 0) ((12 * β + V 0 2)) (nI 1))) 76 0 (upd (jh_I (ju_I (ju_I (ju_I (h3) 73 0 (upd (jh_I (h3) 73 0) ((12 * β + V 0 2)) (0))) 74 0 (upd (jh_I (ju_I (h3) 73 0 (upd (jh_I (h3) 73 0) ((12 * β + V 0 2)) (0))) 74 0) ((12 * β + V 0 2)) (0))) 75 0 (upd (jh_I (ju_I (ju_I (h3) 73 0 (upd (jh_I (h3) 73 0) ((12 * β + V 0 2)) (0))) 74 0 (upd (jh_I (ju_I (h3) 73 0 (upd (jh_I (h3) 73 0) ((12 * β + V 0 2)) (0))) 74 0) ((12 * β + V 0 2)) (0))) 75 0) ((12 * β + V 0 2)) (nI 1))) 76 0) ((12 * β + V 0 2)) (nI 1))) 77 0 (upd (jh_I (ju_I (ju_I (ju_I (ju_I (h3) 73 0 (upd (jh_I (h3) 73 0) ((12 * β + V 0 2)) (0))) 74 0 (upd (jh_I (ju_I (h3) 73 0 (upd (jh_I (h3) 73 0) ((12 * β + V 0 2)) (0))) 74 0) ((12 * β + V 0 2)) (0))) 75 0 (upd (jh_I (ju_I (ju_I (h3) 73 0 (upd (jh_I (h3) 73 0) ((12 * β + V 0 2)) (0))) 74 0 (upd (jh_I (ju_I (h3) 73 0 (upd (jh_I (h3) 73 0) ((12 * β + V 0 2)) (0))) 74 0) ((12 * β + V 0 2)) (0))) 75 0) ((12 * β + V 0 2)) (nI 1))) 76 0 (upd (jh_I (ju_I (ju_I (ju_I (h3) 73 0 (upd (jh_I (h3) 73 0) ((12 * β + V 0 2)) (0))) 74 0 (upd (jh_I (ju_I (h3) 73 0 (upd (jh_I (h3) 73 0) ((12 * β + V 0 2)) (0))) 74 0) ((12 * β + V 0 2)) (0))) 75 0 (upd (jh_I (ju_I (ju_I (h3) 73 0 (upd (jh_I (h3) 73 0) ((12 * β + V 0 2)) (0))) 74 0 (upd (jh_I (ju_I (h3) 73 0 (upd (jh_I (h3) 73 0) ((12 * β + V 0 2)) (0))) 74 0) ((12 * β + V 0 2)) (0))) 75 0) ((12 * β + V 0 2)) (nI 1))) 76 0) ((12 * β + V 0 2)) (nI 1))) 77 0) ((12 * β + V 0 2)) (0))) 84 0 (upd (jh_I (ju_I (ju_I (ju_I (ju_I (ju_I (h3) 73 0 (upd (jh_I (h3) 73 0) ((12 * β + V 0 2)) (0))) 74 0 (upd (jh_I (ju_I (h3) 73 0 (upd (jh_I (h3) 73 0) ((12 * β + V 0 2)) (0))) 74 0) ((12 * β + V 0 2)) (0))) 75 0 (upd (jh_I (ju_I (ju_I (h3) 73 0 (upd (jh_I (h3) 73 0) ((12 * β + V 0 2)) (0))) 74 0 (upd (jh_I (ju_I (h3) 73 0 (upd (jh_I (h3) 73 0) ((12 * β + V 0 2)) (0))) 74 0) ((12 * β + V 0 2)) (0))) 75 0) ((12 * β + V 0 2)) (nI 1))) 76 0 (upd (jh_I (ju_I (ju_I (ju_I (h3) 73 0 (upd (jh_I (h3) 73 0) ((12 * β + V 0 2)) (0))) 74 0 (upd (jh_I (ju_I (h3) 73 0 (upd (jh_I (h3) 73 0) ((12 * β + V 0 2)) (0))) 74 0) ((12 * β + V 0 2)) (0))) 75 0 (upd (jh_I (ju_I (ju_I (h3) 73 0 (upd (jh_I (h3) 73 0) ((12 * β + V 0 2)) (0))) 74 0 (upd (jh_I (ju_I (h3) 73 0 (upd (jh_I (h3) 73 0) ((12 * β + V 0 2)) (0))) 74 0) ((12 * β + V 0 2)) (0))) 75 0) ((12 * β + V 0 2)) (nI 1))) 76 0) ((12 * β + V 0 2)) (nI 1))) 77 0 (upd (jh_I (ju_I (ju_I (ju_I (ju_I (h3) 73 0 (upd (jh_I (h3) 73 0) ((12 * β + V 0 2)) (0))) 74 0 (upd (jh_I (ju_I (h3) 73 0 (upd (jh_I (h3) 73 0) ((12 * β + V 0 2)) (0))) 74 0) ((12 * β + V 0 2)) (0))) 75 0 (upd (jh_I (ju_I (ju_I (h3) 73 0 (upd (jh_I (h3) 73 0) ((12 * β + V 0 2)) (0))) 74 0 (upd (jh_I (ju_I (h3) 73 0 (upd (jh_I (h3) 73 0) ((12 * β + V 0 2)) (0))) 74 0) ((12 * β + V 0 2)) (0))) 75 0) ((12 * β + V 0 2)) (nI 1))) 76 0 (upd (jh_I (ju_I (ju_I (ju_I (h3) 73 0 (upd (jh_I (h3) 73 0) ((12 * β + V 0 2)) (0))) 74 0 (upd (jh_I (ju_I (h3) 73 0 (upd (jh_I (h3) 73 0) ((12 * β + V 0 2)) (0))) 74 0) ((12 * β + V 0 2)) (0))) 75 0 (upd (jh_I (ju_I (ju_I (h3) 73 0 (upd (jh_I (h3) 73 0) ((12 * β + V 0 2)) (0))) 74 0 (upd (jh_I (ju_I (h3) 73 0 (upd (jh_I (h3) 73 0) ((12 * β + V 0 2)) (0))) 74 0) ((12 * β + V 0 2)) (0))) 75 0) ((12 * β + V 0 2)) (nI 1))) 76 0) ((12 * β + V 0 2)) (nI 1))) 77 0) ((12 * β + V 0 2)) (0))) 84 0) ((12 * β + V 0 2)) (0 &&& 1))) 68 0 β = nI (V 0 2) from (congrFun ((g3.1 68 0 (by decide)).trans ((g2.1 68 0 (by decide)).trans (g1.1 68 0 (by decide)))) β).trans c1, show nI (V 0 2) + 1 = nI (V 0 2 + 1) from jn_S _]
  refine jr_iast (len := 2) rfl rfl b3 (by omega) ?_
  refine jr_vret rfl rfl (Nat.zero_le _) (Nat.zero_le _) ?_
  exact k _ (jMF_I (a := 68) (w := 1) (jMF_I (a := 84) (w := 12) (jMF_I (a := 77) (w := 12) (jMF_I (a := 76) (w := 12) (jMF_I (a := 75) (w := 12) (jMF_I (a := 74) (w := 12) (jMF_I (a := 73) (w := 12) (jMF_ft (jMF_G (jMF_L (a := 92) (w := 12) (jMF_G (F) g1) (by decide) (by decide) (by omega) (by omega)) g2) g3) (by decide) (by decide) (by omega) (by omega)) (by decide) (by decide) (by omega) (by omega)) (by decide) (by decide) (by omega) (by omega)) (by decide) (by decide) (by omega) (by omega)) (by decide) (by decide) (by omega) (by omega)) (by decide) (by decide) (by omega) (by omega)) (by decide) (by decide) (by omega) (by omega)) g3.2.2.2.1 g3.2.2.2.2

set_option maxHeartbeats 800000 in
set_option maxRecDepth 100000 in
theorem eM_due_b5 {d : Nat} {h : jx_H} {Q : Option jx_V → jx_H → Prop} {h0 : jx_H} {B : Nat → Int32} {sz β t : Nat} {a : Nat} {V : Nat → Nat → Nat} {W : Nat → Nat → List Nat} {D : Nat → Int32} (x : jML h B sz β t V W D) (F : jMF β h0 h) (hβ : β < 2) (hn : V 0 2 < 12) (h5 : V 0 1 ≤ 5) (h6 : V 0 0 ≤ 6) (hW : jnW (W 2) (V 0 2)) (hWp : jnW (W 1) (V 0 1)) (hWm : jnW (W 0) (V 0 0)) (k0 : jT_K B sz t = 3) (n0 : jnF (W 2) (jT_wd B sz (jT_p B sz t)) (V 0 2) 0 = none) (k1 : jT_K B sz (t + 1) = 113) (k2 : jT_K B sz (t + 2) = 3) (j2 : jnF (W 1) (jT_wd B sz (jT_p B sz (t + 2))) (V 0 1) 0 = some a) (k3 : ¬ jT_K B sz (t + 3) = 108) (k : ∀ h', jMF β h0 h' → jh_I h' 11 0 4 = jX_kd (jT_K B sz (t + 3)) → jPl h' (jT_p B sz (t + 3)) → Q none h')  : jx_Ev jm_MD_readDue (d + 8) 0 0 false 1 [jv_r 11 0] h Q := by
  show jx_W (jm_MD_readDue, d + 8, 0, 0, false, 1, _) Q 0 0 0 [some (jv_r 11 0), none] [] _
  obtain ⟨⟨t0, m0, f0, b0, -, -, -, -⟩, ⟨⟨a1, a2⟩, ⟨p1, p2⟩, ⟨c1, c2⟩, -⟩, -⟩ := id x
  have xb := b0
  have hr : ∀ j, j < V 0 2 → jh_L h 92 0 (12 * β + j) = jT_key (W 2 j) := fun j hj => (c2 j hj).2
  have hj2 := (jnF_lt _ _ _ j2).2.1
  refine jr_ic rfl ?_
  refine jr_aload rfl rfl ?_
  refine jr_getI rfl rfl ?_
  refine jr_imul rfl ?_
  refine jr_aload rfl rfl ?_
  refine jr_getR rfl rfl rfl rfl (Or.inl rfl) ?_
  refine jr_aload rfl rfl ?_
  refine jr_getI rfl rfl ?_
  refine jr_iald (len := 2) rfl rfl b0 (by omega) ?_
  refine jr_iadd rfl ?_
  rw [xb, c1, show (12 : Int32) * nI β + nI (V 0 2) = nI (12 * β + V 0 2) from jn_add (jn_mul rfl rfl) rfl]
  refine jr_ist1 rfl rfl ?_
  refine jr_aload rfl rfl ?_
  refine jr_getR rfl rfl rfl rfl (Or.inl rfl) ?_
  refine jr_iload rfl rfl ?_
  refine jr_aload rfl rfl ?_
  refine jr_aload rfl rfl ?_
  refine jr_aload rfl rfl ?_
  refine jr_getR rfl rfl rfl rfl (Or.inl rfl) ?_
  refine jr_ic rfl ?_
  refine jr_aload rfl rfl ?_
  refine jr_getI rfl rfl ?_
  refine jr_imul rfl ?_
  refine jr_aload rfl rfl ?_
  refine jr_getR rfl rfl rfl rfl (Or.inl rfl) ?_
  refine jr_aload rfl rfl ?_
  refine jr_getI rfl rfl ?_
  refine jr_iald (len := 2) rfl rfl b0 (by omega) ?_
  rw [xb, c1, show (12 : Int32) * nI β = nI (12 * β) from jn_mul rfl rfl]
  refine jr_cv3 (mc' := 0) (ms' := 0) rfl jm_MD_here_n jm_MD_here_f rfl rfl rfl rfl rfl rfl rfl (Nat.zero_le _) (Nat.zero_le _) ?_
  refine eM_here_d m0 hβ hW hr (by omega) ?_
  rw [if_pos k0, n0]
  refine jr_cv1 (mc' := 0) (ms' := 0) rfl jm_MD_fresh_n jm_MD_fresh_f rfl rfl rfl rfl rfl rfl rfl (Nat.zero_le _) (Nat.zero_le _) ?_
  refine eM_fresh_y (B := B) (sz := sz) (t := t) t0 m0 f0 k0 (fun h1 g1 m1 => ?_)
  have t1 := jX_t_MG g1 t0
  have f1 : jh_I h1 11 0 4 = 0 := (g1.2.2.2 4 (by decide)).trans f0
  have b1 : jh_I h1 11 0 44 = nI β := (g1.2.2.2 44 (by decide)).trans b0
  refine jr_last (len := 24) rfl rfl rfl (by omega) ?_
  refine jr_aload rfl rfl ?_
  refine jr_aload rfl rfl ?_
  refine jr_lc rfl ?_
  refine jr_cv1 (mc' := 0) (ms' := 0) rfl jm_MD_isWord_n jm_MD_isWord_f rfl rfl rfl rfl rfl rfl rfl (Nat.zero_le _) (Nat.zero_le _) ?_
  refine eM_isWord (B := B) (sz := sz) (t := t + 1) m1 (i := 13) (by decide) jT_W13 ?_
  refine jr_cv1 (mc' := 0) (ms' := 0) rfl jm_MD_must_n jm_MD_must_f rfl rfl rfl rfl rfl rfl rfl (Nat.zero_le _) (Nat.zero_le _) ?_
  refine eM_must_y (B := B) (sz := sz) (t := t + 1) t1 m1 f1 (by rw [if_pos k1]; decide) (fun h2 g2 m2 => ?_)
  have t2 := jX_t_MG g2 t1
  have f2 : jh_I h2 11 0 4 = 0 := (g2.2.2.2 4 (by decide)).trans f1
  have b2 : jh_I h2 11 0 44 = nI β := (g2.2.2.2 44 (by decide)).trans b1
  refine jr_aload rfl rfl ?_
  refine jr_getR rfl rfl rfl rfl (Or.inl rfl) ?_
  refine jr_iload rfl rfl ?_
  refine jr_aload rfl rfl ?_
  refine jr_aload rfl rfl ?_
  refine jr_cv0 (mc' := 0) (ms' := 0) rfl jm_MD_personHere_n jm_MD_personHere_f rfl rfl rfl rfl rfl rfl rfl (Nat.zero_le _) (Nat.zero_le _) ?_
  show jx_W (jm_MD_personHere, _, _, _, _, _, _) _ 0 0 0 [some _] [] _
  refine jr_aload rfl rfl ?_
  refine jr_aload rfl rfl ?_
  refine jr_getR rfl rfl rfl rfl (Or.inl rfl) ?_
  refine jr_ic rfl ?_
  refine jr_aload rfl rfl ?_
  refine jr_getI rfl rfl ?_
  refine jr_imul rfl ?_
  refine jr_aload rfl rfl ?_
  refine jr_getR rfl rfl rfl rfl (Or.inl rfl) ?_
  refine jr_aload rfl rfl ?_
  refine jr_getI rfl rfl ?_
  refine jr_iald (len := 2) rfl rfl (by first | exact b4 | exact b2) (by omega) ?_
  rw [show jh_I (h2) 11 0 44 = nI β from b2, show jh_I (h2) 67 0 β = nI (V 0 1) from (congrFun ((g2.1 67 0 (by decide)).trans (g1.1 67 0 (by decide))) β).trans p1, show (5 : Int32) * nI β = nI (5 * β) from jn_mul rfl rfl]
  refine jr_cv3 (mc' := 0) (ms' := 0) rfl jm_MD_here_n jm_MD_here_f rfl rfl rfl rfl rfl rfl rfl (Nat.zero_le _) (Nat.zero_le _) ?_
  refine eM_here_p (B := B) (sz := sz) (t := t + 2) m2 hβ hWp (fun j hj => (congrFun ((g2.2.1 91 0 (by decide)).trans (g1.2.1 91 0 (by decide))) _).trans ((p2 j hj).2)) (by omega) ?_
  refine jr_iret rfl rfl (Nat.zero_le _) (Nat.zero_le _) ?_
  rw [if_pos k2, j2]
  refine jr_cv1 (mc' := 0) (ms' := 0) rfl jm_MD_told_n jm_MD_told_f rfl rfl rfl rfl rfl rfl rfl (Nat.zero_le _) (Nat.zero_le _) ?_
  refine eM_told_y (j := a) (B := B) (sz := sz) (t := t + 2) t2 m2 f2 k2 (by omega) ?_
  refine jr_iast (len := 24) rfl rfl rfl (by omega) ?_
  refine jr_aload rfl rfl ?_
  refine jr_cv0 (mc' := 0) (ms' := 0) rfl jm_MD_isGood_n jm_MD_isGood_f rfl rfl rfl rfl rfl rfl rfl (Nat.zero_le _) (Nat.zero_le _) ?_
  show jx_W (jm_MD_isGood, _, _, _, _, _, _) _ 0 0 0 [some _] [] _
  refine jr_aload rfl rfl ?_
  refine jr_getI rfl rfl ?_
  refine jr_if_ne rfl (fun z => absurd f2 z) (fun _ => ?_)
  refine jr_ic rfl ?_
  refine jr_goto rfl ?_
  refine jr_zret rfl rfl rfl (Nat.zero_le _) (Nat.zero_le _) ?_
  refine jr_if_eq rfl (fun z => absurd z (by decide)) (fun _ => ?_)
  refine jr_aload rfl rfl ?_
  refine jr_cv0 (mc' := 0) (ms' := 0) rfl jm_MD_goOn_n jm_MD_goOn_f rfl rfl rfl rfl rfl rfl rfl (Nat.zero_le _) (Nat.zero_le _) ?_
  refine eM_goOn (B := B) (sz := sz) (t := t + 3) t2.1 t2.2.1 t2.2.2.1 m2.2.1 (fun h3 g3 m3 => ?_)
  have t3 := jX_t_MG g3 t2
  have f3 : jh_I h3 11 0 4 = 0 := (g3.2.2.2 4 (by decide)).trans f2
  have b3 : jh_I h3 11 0 44 = nI β := (g3.2.2.2 44 (by decide)).trans b2
  refine jr_aload rfl rfl ?_
  refine jr_aload rfl rfl ?_
  refine jr_lc rfl ?_
  refine jr_cv1 (mc' := 0) (ms' := 0) rfl jm_MD_isWord_n jm_MD_isWord_f rfl rfl rfl rfl rfl rfl rfl (Nat.zero_le _) (Nat.zero_le _) ?_
  refine eM_isWord (B := B) (sz := sz) (t := t + 3) m3 (i := 8) (by decide) jT_W8 ?_
  refine jr_cv1 (mc' := 0) (ms' := 0) rfl jm_MD_must_n jm_MD_must_f rfl rfl rfl rfl rfl rfl rfl (Nat.zero_le _) (Nat.zero_le _) ?_
  refine eM_must_n (B := B) (sz := sz) (t := t + 3) t3 m3 f3 (if_neg k3) (fun h4 g4 => ?_)
  have e4 : ¬ jh_I h4 11 0 4 = 0 := by rw [g4.2.2.2.1]; exact jX_kd_n _
  have m4 := jT_mc_ft g4 m3
  have b4 : jh_I h4 11 0 44 = nI β := (g4.2.2.1 44 (by decide) (by decide)).trans b3
  refine jr_aload rfl rfl ?_
  refine jr_getR rfl rfl rfl rfl (Or.inl rfl) ?_
  refine jr_iload rfl rfl ?_
  refine jr_aload rfl rfl ?_
  refine jr_aload rfl rfl ?_
  refine jr_cv0 (mc' := 0) (ms' := 0) rfl jm_MD_personHere_n jm_MD_personHere_f rfl rfl rfl rfl rfl rfl rfl (Nat.zero_le _) (Nat.zero_le _) ?_
  show jx_W (jm_MD_personHere, _, _, _, _, _, _) _ 0 0 0 [some _] [] _
  refine jr_aload rfl rfl ?_
  refine jr_aload rfl rfl ?_
  refine jr_getR rfl rfl rfl rfl (Or.inl rfl) ?_
  refine jr_ic rfl ?_
  refine jr_aload rfl rfl ?_
  refine jr_getI rfl rfl ?_
  refine jr_imul rfl ?_
  refine jr_aload rfl rfl ?_
  refine jr_getR rfl rfl rfl rfl (Or.inl rfl) ?_
  refine jr_aload rfl rfl ?_
  refine jr_getI rfl rfl ?_
  refine jr_iald (len := 2) rfl rfl (by first | exact b4 | exact b2) (by omega) ?_
  rw [show jh_I (h4) 11 0 44 = nI β from b4, show jh_I (h4) 67 0 β = nI (V 0 1) from (congrFun ((g4.1 67 0 (by decide)).trans ((g3.1 67 0 (by decide)).trans ((g2.1 67 0 (by decide)).trans (g1.1 67 0 (by decide))))) β).trans p1, show (5 : Int32) * nI β = nI (5 * β) from jn_mul rfl rfl]
  refine jr_cv3 (mc' := 0) (ms' := 0) rfl jm_MD_here_n jm_MD_here_f rfl rfl rfl rfl rfl rfl rfl (Nat.zero_le _) (Nat.zero_le _) ?_
  refine eM_here_p (B := B) (sz := sz) (t := t + 3) m4 hβ hWp (fun j hj => (congrFun ((congrFun (congrFun (congrArg (·.1) g4.2.1) 91) 0).trans ((g3.2.1 91 0 (by decide)).trans ((g2.2.1 91 0 (by decide)).trans (g1.2.1 91 0 (by decide))))) _).trans ((p2 j hj).2)) (by omega) ?_
  refine jr_iret rfl rfl (Nat.zero_le _) (Nat.zero_le _) ?_
  refine jr_cv1 (mc' := 0) (ms' := 0) rfl jm_MD_told_n jm_MD_told_f rfl rfl rfl rfl rfl rfl rfl (Nat.zero_le _) (Nat.zero_le _) ?_
  refine eM_told_b e4 ?_
  refine jr_iast (len := 24) rfl rfl rfl (by omega) ?_
  refine jr_aload rfl rfl ?_
  refine jr_cv0 (mc' := 0) (ms' := 0) rfl jm_MD_isGood_n jm_MD_isGood_f rfl rfl rfl rfl rfl rfl rfl (Nat.zero_le _) (Nat.zero_le _) ?_
  show jx_W (jm_MD_isGood, _, _, _, _, _, _) _ 0 0 0 [some _] [] _
  refine jr_aload rfl rfl ?_
  refine jr_getI rfl rfl ?_
  refine jr_if_ne rfl (fun _ => ?_) (fun z => absurd z e4)
  refine jr_ic rfl ?_
  refine jr_zret rfl rfl rfl (Nat.zero_le _) (Nat.zero_le _) ?_
  refine jr_if_eq rfl (fun _ => ?_) (fun z => absurd (by decide) z)
  refine jr_aload rfl rfl ?_
  refine jr_cv0 (mc' := 0) (ms' := 0) rfl jm_MD_isGood_n jm_MD_isGood_f rfl rfl rfl rfl rfl rfl rfl (Nat.zero_le _) (Nat.zero_le _) ?_
  show jx_W (jm_MD_isGood, _, _, _, _, _, _) _ 0 0 0 [some _] [] _
  refine jr_aload rfl rfl ?_
  refine jr_getI rfl rfl ?_
  refine jr_if_ne rfl (fun _ => ?_) (fun z => absurd z e4)
  refine jr_ic rfl ?_
  refine jr_zret rfl rfl rfl (Nat.zero_le _) (Nat.zero_le _) ?_
  refine jr_if_eq rfl (fun _ => ?_) (fun z => absurd (by decide) z)
  refine jr_aload rfl rfl ?_
  refine jr_getR rfl rfl rfl rfl (Or.inl rfl) ?_
  refine jr_iload rfl rfl ?_
  refine jr_aload rfl rfl ?_
  refine jr_lc rfl ?_
  refine jr_ic rfl ?_
  refine jr_ic rfl ?_
  refine jr_cv3 (mc' := 0) (ms' := 0) rfl jm_MD_after_n jm_MD_after_f rfl rfl rfl rfl rfl rfl rfl (Nat.zero_le _) (Nat.zero_le _) ?_
  show jx_W (jm_MD_after, _, _, _, _, _, _) _ 0 0 0 [some _, some _, none, some _, some _] [] _
  refine jr_aload rfl rfl ?_
  refine jr_aload rfl rfl ?_
  refine jr_lload rfl rfl ?_
  refine jr_cv1 (mc' := 0) (ms' := 0) rfl jm_MD_isWord_n jm_MD_isWord_f rfl rfl rfl rfl rfl rfl rfl (Nat.zero_le _) (Nat.zero_le _) ?_
  refine eM_isWord (B := B) (sz := sz) (t := t + 3) m4 (i := 14) (by decide) jT_W14 ?_
  refine jr_cv1 (mc' := 0) (ms' := 0) rfl jm_MD_must_n jm_MD_must_f rfl rfl rfl rfl rfl rfl rfl (Nat.zero_le _) (Nat.zero_le _) ?_
  refine eM_must_b e4 ?_
  refine jr_aload rfl rfl ?_
  refine jr_iload rfl rfl ?_
  refine jr_iload rfl rfl ?_
  refine jr_cv2 (mc' := 0) (ms' := 0) rfl jm_MD_numeral_n jm_MD_numeral_f rfl rfl rfl rfl rfl rfl rfl (Nat.zero_le _) (Nat.zero_le _) ?_
  refine eM_num_b (lo := 1) (hi := 99) e4 ?_
  refine jr_iret rfl rfl (Nat.zero_le _) (Nat.zero_le _) ?_
  refine jr_iast (len := 24) rfl rfl rfl (by omega) ?_
  refine jr_aload rfl rfl ?_
  refine jr_getR rfl rfl rfl rfl (Or.inl rfl) ?_
  refine jr_iload rfl rfl ?_
  refine jr_aload rfl rfl ?_
  refine jr_lc rfl ?_
  refine jr_ic rfl ?_
  refine jr_ic rfl ?_
  refine jr_cv3 (mc' := 0) (ms' := 0) rfl jm_MD_after_n jm_MD_after_f rfl rfl rfl rfl rfl rfl rfl (Nat.zero_le _) (Nat.zero_le _) ?_
  show jx_W (jm_MD_after, _, _, _, _, _, _) _ 0 0 0 [some _, some _, none, some _, some _] [] _
  refine jr_aload rfl rfl ?_
  refine jr_aload rfl rfl ?_
  refine jr_lload rfl rfl ?_
  refine jr_cv1 (mc' := 0) (ms' := 0) rfl jm_MD_isWord_n jm_MD_isWord_f rfl rfl rfl rfl rfl rfl rfl (Nat.zero_le _) (Nat.zero_le _) ?_
  refine eM_isWord (B := B) (sz := sz) (t := t + 3) m4 (i := 15) (by decide) jT_W15 ?_
  refine jr_cv1 (mc' := 0) (ms' := 0) rfl jm_MD_must_n jm_MD_must_f rfl rfl rfl rfl rfl rfl rfl (Nat.zero_le _) (Nat.zero_le _) ?_
  refine eM_must_b e4 ?_
  refine jr_aload rfl rfl ?_
  refine jr_iload rfl rfl ?_
  refine jr_iload rfl rfl ?_
  refine jr_cv2 (mc' := 0) (ms' := 0) rfl jm_MD_numeral_n jm_MD_numeral_f rfl rfl rfl rfl rfl rfl rfl (Nat.zero_le _) (Nat.zero_le _) ?_
  refine eM_num_b (lo := 1) (hi := 31) e4 ?_
  refine jr_iret rfl rfl (Nat.zero_le _) (Nat.zero_le _) ?_
  refine jr_iast (len := 24) rfl rfl rfl (by omega) ?_
  refine jr_aload rfl rfl ?_
  refine jr_aload rfl rfl ?_
  refine jr_lc rfl ?_
  refine jr_cv1 (mc' := 0) (ms' := 0) rfl jm_MD_isWord_n jm_MD_isWord_f rfl rfl rfl rfl rfl rfl rfl (Nat.zero_le _) (Nat.zero_le _) ?_
  refine eM_isWord (B := B) (sz := sz) (t := t + 3) m4 (i := 16) (by decide) jT_W16 ?_
  refine jr_cv1 (mc' := 0) (ms' := 0) rfl jm_MD_must_n jm_MD_must_f rfl rfl rfl rfl rfl rfl rfl (Nat.zero_le _) (Nat.zero_le _) ?_
  refine eM_must_b e4 ?_
  refine jr_aload rfl rfl ?_
  refine jr_getR rfl rfl rfl rfl (Or.inl rfl) ?_
  refine jr_iload rfl rfl ?_
  refine jr_aload rfl rfl ?_
  refine jr_aload rfl rfl ?_
  refine jr_aload rfl rfl ?_
  refine jr_getR rfl rfl rfl rfl (Or.inl rfl) ?_
  refine jr_ic rfl ?_
  refine jr_aload rfl rfl ?_
  refine jr_getI rfl rfl ?_
  refine jr_imul rfl ?_
  refine jr_aload rfl rfl ?_
  refine jr_getR rfl rfl rfl rfl (Or.inl rfl) ?_
  refine jr_aload rfl rfl ?_
  refine jr_getI rfl rfl ?_
  refine jr_iald (len := 2) rfl rfl b4 (by omega) ?_
  rw [show jh_I (ju_I (ju_I (ju_I (h4) 74 0 (upd (jh_I (h4) 74 0) ((12 * β + V 0 2)) (0))) 75 0 (upd (jh_I (ju_I (h4) 74 0 (upd (jh_I (h4) 74 0) ((12 * β + V 0 2)) (0))) 75 0) ((12 * β + V 0 2)) (nI 1))) 76 0 (upd (jh_I (ju_I (ju_I (h4) 74 0 (upd (jh_I (h4) 74 0) ((12 * β + V 0 2)) (0))) 75 0 (upd (jh_I (ju_I (h4) 74 0 (upd (jh_I (h4) 74 0) ((12 * β + V 0 2)) (0))) 75 0) ((12 * β + V 0 2)) (nI 1))) 76 0) ((12 * β + V 0 2)) (nI 1))) 11 0 44 = nI β from b4, show jh_I (ju_I (ju_I (ju_I (h4) 74 0 (upd (jh_I (h4) 74 0) ((12 * β + V 0 2)) (0))) 75 0 (upd (jh_I (ju_I (h4) 74 0 (upd (jh_I (h4) 74 0) ((12 * β + V 0 2)) (0))) 75 0) ((12 * β + V 0 2)) (nI 1))) 76 0 (upd (jh_I (ju_I (ju_I (h4) 74 0 (upd (jh_I (h4) 74 0) ((12 * β + V 0 2)) (0))) 75 0 (upd (jh_I (ju_I (h4) 74 0 (upd (jh_I (h4) 74 0) ((12 * β + V 0 2)) (0))) 75 0) ((12 * β + V 0 2)) (nI 1))) 76 0) ((12 * β + V 0 2)) (nI 1))) 66 0 β = nI (V 0 0) from (congrFun ((g4.1 66 0 (by decide)).trans ((g3.1 66 0 (by decide)).trans ((g2.1 66 0 (by decide)).trans (g1.1 66 0 (by decide))))) β).trans a1, show (6 : Int32) * nI β = nI (6 * β) from jn_mul rfl rfl]
  refine jr_cv3 (mc' := 0) (ms' := 0) rfl jm_MD_here_n jm_MD_here_f rfl rfl rfl rfl rfl rfl rfl (Nat.zero_le _) (Nat.zero_le _) ?_
  refine eM_here_m (B := B) (sz := sz) (t := t + 3) m4 hβ hWm (fun j hj => (congrFun ((congrFun (congrFun (congrArg (·.1) g4.2.1) 90) 0).trans ((g3.2.1 90 0 (by decide)).trans ((g2.2.1 90 0 (by decide)).trans (g1.2.1 90 0 (by decide))))) _).trans ((a2 j hj).2.2)) (by omega) ?_
  refine jr_cv1 (mc' := 0) (ms' := 0) rfl jm_MD_told_n jm_MD_told_f rfl rfl rfl rfl rfl rfl rfl (Nat.zero_le _) (Nat.zero_le _) ?_
  refine eM_told_b e4 ?_
  refine jr_iast (len := 24) rfl rfl rfl (by omega) ?_
  refine jr_aload rfl rfl ?_
  refine jr_cv0 (mc' := 0) (ms' := 0) rfl jm_MD_isGood_n jm_MD_isGood_f rfl rfl rfl rfl rfl rfl rfl (Nat.zero_le _) (Nat.zero_le _) ?_
  show jx_W (jm_MD_isGood, _, _, _, _, _, _) _ 0 0 0 [some _] [] _
  refine jr_aload rfl rfl ?_
  refine jr_getI rfl rfl ?_
  refine jr_if_ne rfl (fun _ => ?_) (fun z => absurd z e4)
  refine jr_ic rfl ?_
  refine jr_zret rfl rfl rfl (Nat.zero_le _) (Nat.zero_le _) ?_
  refine jr_if_eq rfl (fun _ => ?_) (fun z => absurd (by decide) z)
  refine jr_aload rfl rfl ?_
  refine jr_getR rfl rfl rfl rfl (Or.inl rfl) ?_
  refine jr_iload rfl rfl ?_
  refine jr_aload rfl rfl ?_
  refine jr_lc rfl ?_
  refine jr_cv1 (mc' := 0) (ms' := 0) rfl jm_MD_has_n jm_MD_has_f rfl rfl rfl rfl rfl rfl rfl (Nat.zero_le _) (Nat.zero_le _) ?_
  refine eM_has_b e4 ?_
  refine jr_zast (len := 24) rfl rfl rfl (by omega) ?_
  refine jr_aload rfl rfl ?_
  refine jr_getR rfl rfl rfl rfl (Or.inl rfl) ?_
  refine jr_aload rfl rfl ?_
  refine jr_getI rfl rfl ?_
  refine jr_dup2 rfl ?_
  refine jr_iald (len := 2) rfl rfl b4 (by omega) ?_
  refine jr_ic rfl ?_
  refine jr_iadd rfl ?_
  rw [show jh_I (ju_I (ju_I (ju_I (ju_I (ju_I (h4) 74 0 (upd (jh_I (h4) 74 0) ((12 * β + V 0 2)) (0))) 75 0 (upd (jh_I (ju_I (h4) 74 0 (upd (jh_I (h4) 74 0) ((12 * β + V 0 2)) (0))) 75 0) ((12 * β + V 0 2)) (nI 1))) 76 0 (upd (jh_I (ju_I (ju_I (h4) 74 0 (upd (jh_I (h4) 74 0) ((12 * β + V 0 2)) (0))) 75 0 (upd (jh_I (ju_I (h4) 74 0 (upd (jh_I (h4) 74 0) ((12 * β + V 0 2)) (0))) 75 0) ((12 * β + V 0 2)) (nI 1))) 76 0) ((12 * β + V 0 2)) (nI 1))) 77 0 (upd (jh_I (ju_I (ju_I (ju_I (h4) 74 0 (upd (jh_I (h4) 74 0) ((12 * β + V 0 2)) (0))) 75 0 (upd (jh_I (ju_I (h4) 74 0 (upd (jh_I (h4) 74 0) ((12 * β + V 0 2)) (0))) 75 0) ((12 * β + V 0 2)) (nI 1))) 76 0 (upd (jh_I (ju_I (ju_I (h4) 74 0 (upd (jh_I (h4) 74 0) ((12 * β + V 0 2)) (0))) 75 0 (upd (jh_I (ju_I (h4) 74 0 (upd (jh_I (h4) 74 0) ((12 * β + V 0 2)) (0))) 75 0) ((12 * β + V 0 2)) (nI 1))) 76 0) ((12 * β + V 0 2)) (nI 1))) 77 0) ((12 * β + V 0 2)) (0))) 84 0 (upd (jh_I (ju_I (ju_I (ju_I (ju_I (h4) 74 0 (upd (jh_I (h4) 74 0) ((12 * β + V 0 2)) (0))) 75 0 (upd (jh_I (ju_I (h4) 74 0 (upd (jh_I (h4) 74 0) ((12 * β + V 0 2)) (0))) 75 0) ((12 * β + V 0 2)) (nI 1))) 76 0 (upd (jh_I (ju_I (ju_I (h4) 74 0 (upd (jh_I (h4) 74 0) ((12 * β + V 0 2)) (0))) 75 0 (upd (jh_I (ju_I (h4) 74 0 (upd (jh_I (h4) 74 0) ((12 * β + V 0 2)) (0))) 75 0) ((12 * β + V 0 2)) (nI 1))) 76 0) ((12 * β + V 0 2)) (nI 1))) 77 0 (upd (jh_I (ju_I (ju_I (ju_I (h4) 74 0 (upd (jh_I (h4) 74 0) ((12 * β + V 0 2)) (0))) 75 0 (upd (jh_I (ju_I (h4) 74 0 (upd (jh_I (h4) 74 0) ((12 * β + V 0 2)) (0))) 75 0) ((12 * β + V 0 2)) (nI 1))) 76 0 (upd (jh_I (ju_I (ju_I (h4) 74 0 (upd (jh_I (h4) 74 0) ((12 * β + V 0 2)) (0))) 75 0 (upd (jh_I (ju_I (h4) 74 0 (upd (jh_I (h4) 74 0) ((12 * β + V 0 2)) (0))) 75 0) ((12 * β + V 0 2)) (nI 1))) 76 0) ((12 * β + V 0 2)) (nI 1))) 77 0) ((12 * β + V 0 2)) (0))) 84 0) ((12 * β + V 0 2)) (0 &&& 1))) 68 0 β = nI (V 0 2) from (congrFun ((g4.1 68 0 (by decide)).trans ((g3.1 68 0 (by decide)).trans ((g2.1 68 0 (by decide)).trans (g1.1 68 0 (by decide))))) β).trans c1, show nI (V 0 2) + 1 = nI (V 0 2 + 1) from jn_S _]
  refine jr_iast (len := 2) rfl rfl b4 (by omega) ?_
  refine jr_vret rfl rfl (Nat.zero_le _) (Nat.zero_le _) ?_
  exact k _ (jMF_I (a := 68) (w := 1) (jMF_I (a := 84) (w := 12) (jMF_I (a := 77) (w := 12) (jMF_I (a := 76) (w := 12) (jMF_I (a := 75) (w := 12) (jMF_I (a := 74) (w := 12) (jMF_ft (jMF_G (jMF_I (a := 73) (w := 12) (jMF_G (jMF_L (a := 92) (w := 12) (jMF_G (F) g1) (by decide) (by decide) (by omega) (by omega)) g2) (by decide) (by decide) (by omega) (by omega)) g3) g4) (by decide) (by decide) (by omega) (by omega)) (by decide) (by decide) (by omega) (by omega)) (by decide) (by decide) (by omega) (by omega)) (by decide) (by decide) (by omega) (by omega)) (by decide) (by decide) (by omega) (by omega)) (by decide) (by decide) (by omega) (by omega)) g4.2.2.2.1 g4.2.2.2.2

set_option maxHeartbeats 800000 in
set_option maxRecDepth 100000 in
theorem eM_due_b6 {d : Nat} {h : jx_H} {Q : Option jx_V → jx_H → Prop} {h0 : jx_H} {B : Nat → Int32} {sz β t : Nat} {a : Nat} {V : Nat → Nat → Nat} {W : Nat → Nat → List Nat} {D : Nat → Int32} (x : jML h B sz β t V W D) (F : jMF β h0 h) (hβ : β < 2) (hn : V 0 2 < 12) (h5 : V 0 1 ≤ 5) (h6 : V 0 0 ≤ 6) (hW : jnW (W 2) (V 0 2)) (hWp : jnW (W 1) (V 0 1)) (hWm : jnW (W 0) (V 0 0)) (k0 : jT_K B sz t = 3) (n0 : jnF (W 2) (jT_wd B sz (jT_p B sz t)) (V 0 2) 0 = none) (k1 : jT_K B sz (t + 1) = 113) (k2 : jT_K B sz (t + 2) = 3) (j2 : jnF (W 1) (jT_wd B sz (jT_p B sz (t + 2))) (V 0 1) 0 = some a) (k3 : jT_K B sz (t + 3) = 108) (k4 : ¬ jT_K B sz (t + 4) = 3) (k : ∀ h', jMF β h0 h' → jh_I h' 11 0 4 = jX_kd (jT_K B sz (t + 4)) → jPl h' (jT_p B sz (t + 4)) → Q none h')  : jx_Ev jm_MD_readDue (d + 8) 0 0 false 1 [jv_r 11 0] h Q := by
  show jx_W (jm_MD_readDue, d + 8, 0, 0, false, 1, _) Q 0 0 0 [some (jv_r 11 0), none] [] _
  obtain ⟨⟨t0, m0, f0, b0, -, -, -, -⟩, ⟨⟨a1, a2⟩, ⟨p1, p2⟩, ⟨c1, c2⟩, -⟩, -⟩ := id x
  have xb := b0
  have hr : ∀ j, j < V 0 2 → jh_L h 92 0 (12 * β + j) = jT_key (W 2 j) := fun j hj => (c2 j hj).2
  have hj2 := (jnF_lt _ _ _ j2).2.1
  refine jr_ic rfl ?_
  refine jr_aload rfl rfl ?_
  refine jr_getI rfl rfl ?_
  refine jr_imul rfl ?_
  refine jr_aload rfl rfl ?_
  refine jr_getR rfl rfl rfl rfl (Or.inl rfl) ?_
  refine jr_aload rfl rfl ?_
  refine jr_getI rfl rfl ?_
  refine jr_iald (len := 2) rfl rfl b0 (by omega) ?_
  refine jr_iadd rfl ?_
  rw [xb, c1, show (12 : Int32) * nI β + nI (V 0 2) = nI (12 * β + V 0 2) from jn_add (jn_mul rfl rfl) rfl]
  refine jr_ist1 rfl rfl ?_
  refine jr_aload rfl rfl ?_
  refine jr_getR rfl rfl rfl rfl (Or.inl rfl) ?_
  refine jr_iload rfl rfl ?_
  refine jr_aload rfl rfl ?_
  refine jr_aload rfl rfl ?_
  refine jr_aload rfl rfl ?_
  refine jr_getR rfl rfl rfl rfl (Or.inl rfl) ?_
  refine jr_ic rfl ?_
  refine jr_aload rfl rfl ?_
  refine jr_getI rfl rfl ?_
  refine jr_imul rfl ?_
  refine jr_aload rfl rfl ?_
  refine jr_getR rfl rfl rfl rfl (Or.inl rfl) ?_
  refine jr_aload rfl rfl ?_
  refine jr_getI rfl rfl ?_
  refine jr_iald (len := 2) rfl rfl b0 (by omega) ?_
  rw [xb, c1, show (12 : Int32) * nI β = nI (12 * β) from jn_mul rfl rfl]
  refine jr_cv3 (mc' := 0) (ms' := 0) rfl jm_MD_here_n jm_MD_here_f rfl rfl rfl rfl rfl rfl rfl (Nat.zero_le _) (Nat.zero_le _) ?_
  refine eM_here_d m0 hβ hW hr (by omega) ?_
  rw [if_pos k0, n0]
  refine jr_cv1 (mc' := 0) (ms' := 0) rfl jm_MD_fresh_n jm_MD_fresh_f rfl rfl rfl rfl rfl rfl rfl (Nat.zero_le _) (Nat.zero_le _) ?_
  refine eM_fresh_y (B := B) (sz := sz) (t := t) t0 m0 f0 k0 (fun h1 g1 m1 => ?_)
  have t1 := jX_t_MG g1 t0
  have f1 : jh_I h1 11 0 4 = 0 := (g1.2.2.2 4 (by decide)).trans f0
  have b1 : jh_I h1 11 0 44 = nI β := (g1.2.2.2 44 (by decide)).trans b0
  refine jr_last (len := 24) rfl rfl rfl (by omega) ?_
  refine jr_aload rfl rfl ?_
  refine jr_aload rfl rfl ?_
  refine jr_lc rfl ?_
  refine jr_cv1 (mc' := 0) (ms' := 0) rfl jm_MD_isWord_n jm_MD_isWord_f rfl rfl rfl rfl rfl rfl rfl (Nat.zero_le _) (Nat.zero_le _) ?_
  refine eM_isWord (B := B) (sz := sz) (t := t + 1) m1 (i := 13) (by decide) jT_W13 ?_
  refine jr_cv1 (mc' := 0) (ms' := 0) rfl jm_MD_must_n jm_MD_must_f rfl rfl rfl rfl rfl rfl rfl (Nat.zero_le _) (Nat.zero_le _) ?_
  refine eM_must_y (B := B) (sz := sz) (t := t + 1) t1 m1 f1 (by rw [if_pos k1]; decide) (fun h2 g2 m2 => ?_)
  have t2 := jX_t_MG g2 t1
  have f2 : jh_I h2 11 0 4 = 0 := (g2.2.2.2 4 (by decide)).trans f1
  have b2 : jh_I h2 11 0 44 = nI β := (g2.2.2.2 44 (by decide)).trans b1
  refine jr_aload rfl rfl ?_
  refine jr_getR rfl rfl rfl rfl (Or.inl rfl) ?_
  refine jr_iload rfl rfl ?_
  refine jr_aload rfl rfl ?_
  refine jr_aload rfl rfl ?_
  refine jr_cv0 (mc' := 0) (ms' := 0) rfl jm_MD_personHere_n jm_MD_personHere_f rfl rfl rfl rfl rfl rfl rfl (Nat.zero_le _) (Nat.zero_le _) ?_
  show jx_W (jm_MD_personHere, _, _, _, _, _, _) _ 0 0 0 [some _] [] _
  refine jr_aload rfl rfl ?_
  refine jr_aload rfl rfl ?_
  refine jr_getR rfl rfl rfl rfl (Or.inl rfl) ?_
  refine jr_ic rfl ?_
  refine jr_aload rfl rfl ?_
  refine jr_getI rfl rfl ?_
  refine jr_imul rfl ?_
  refine jr_aload rfl rfl ?_
  refine jr_getR rfl rfl rfl rfl (Or.inl rfl) ?_
  refine jr_aload rfl rfl ?_
  refine jr_getI rfl rfl ?_
  refine jr_iald (len := 2) rfl rfl (by first | exact b4 | exact b2) (by omega) ?_
  rw [show jh_I (h2) 11 0 44 = nI β from b2, show jh_I (h2) 67 0 β = nI (V 0 1) from (congrFun ((g2.1 67 0 (by decide)).trans (g1.1 67 0 (by decide))) β).trans p1, show (5 : Int32) * nI β = nI (5 * β) from jn_mul rfl rfl]
  refine jr_cv3 (mc' := 0) (ms' := 0) rfl jm_MD_here_n jm_MD_here_f rfl rfl rfl rfl rfl rfl rfl (Nat.zero_le _) (Nat.zero_le _) ?_
  refine eM_here_p (B := B) (sz := sz) (t := t + 2) m2 hβ hWp (fun j hj => (congrFun ((g2.2.1 91 0 (by decide)).trans (g1.2.1 91 0 (by decide))) _).trans ((p2 j hj).2)) (by omega) ?_
  refine jr_iret rfl rfl (Nat.zero_le _) (Nat.zero_le _) ?_
  rw [if_pos k2, j2]
  refine jr_cv1 (mc' := 0) (ms' := 0) rfl jm_MD_told_n jm_MD_told_f rfl rfl rfl rfl rfl rfl rfl (Nat.zero_le _) (Nat.zero_le _) ?_
  refine eM_told_y (j := a) (B := B) (sz := sz) (t := t + 2) t2 m2 f2 k2 (by omega) ?_
  refine jr_iast (len := 24) rfl rfl rfl (by omega) ?_
  refine jr_aload rfl rfl ?_
  refine jr_cv0 (mc' := 0) (ms' := 0) rfl jm_MD_isGood_n jm_MD_isGood_f rfl rfl rfl rfl rfl rfl rfl (Nat.zero_le _) (Nat.zero_le _) ?_
  show jx_W (jm_MD_isGood, _, _, _, _, _, _) _ 0 0 0 [some _] [] _
  refine jr_aload rfl rfl ?_
  refine jr_getI rfl rfl ?_
  refine jr_if_ne rfl (fun z => absurd f2 z) (fun _ => ?_)
  refine jr_ic rfl ?_
  refine jr_goto rfl ?_
  refine jr_zret rfl rfl rfl (Nat.zero_le _) (Nat.zero_le _) ?_
  refine jr_if_eq rfl (fun z => absurd z (by decide)) (fun _ => ?_)
  refine jr_aload rfl rfl ?_
  refine jr_cv0 (mc' := 0) (ms' := 0) rfl jm_MD_goOn_n jm_MD_goOn_f rfl rfl rfl rfl rfl rfl rfl (Nat.zero_le _) (Nat.zero_le _) ?_
  refine eM_goOn (B := B) (sz := sz) (t := t + 3) t2.1 t2.2.1 t2.2.2.1 m2.2.1 (fun h3 g3 m3 => ?_)
  have t3 := jX_t_MG g3 t2
  have f3 : jh_I h3 11 0 4 = 0 := (g3.2.2.2 4 (by decide)).trans f2
  have b3 : jh_I h3 11 0 44 = nI β := (g3.2.2.2 44 (by decide)).trans b2
  refine jr_aload rfl rfl ?_
  refine jr_aload rfl rfl ?_
  refine jr_lc rfl ?_
  refine jr_cv1 (mc' := 0) (ms' := 0) rfl jm_MD_isWord_n jm_MD_isWord_f rfl rfl rfl rfl rfl rfl rfl (Nat.zero_le _) (Nat.zero_le _) ?_
  refine eM_isWord (B := B) (sz := sz) (t := t + 3) m3 (i := 8) (by decide) jT_W8 ?_
  refine jr_cv1 (mc' := 0) (ms' := 0) rfl jm_MD_must_n jm_MD_must_f rfl rfl rfl rfl rfl rfl rfl (Nat.zero_le _) (Nat.zero_le _) ?_
  refine eM_must_y (B := B) (sz := sz) (t := t + 3) t3 m3 f3 (by rw [if_pos k3]; decide) (fun h4 g4 m4 => ?_)
  have t4 := jX_t_MG g4 t3
  have f4 : jh_I h4 11 0 4 = 0 := (g4.2.2.2 4 (by decide)).trans f3
  have b4 : jh_I h4 11 0 44 = nI β := (g4.2.2.2 44 (by decide)).trans b3
  refine jr_aload rfl rfl ?_
  refine jr_getR rfl rfl rfl rfl (Or.inl rfl) ?_
  refine jr_iload rfl rfl ?_
  refine jr_aload rfl rfl ?_
  refine jr_aload rfl rfl ?_
  refine jr_cv0 (mc' := 0) (ms' := 0) rfl jm_MD_personHere_n jm_MD_personHere_f rfl rfl rfl rfl rfl rfl rfl (Nat.zero_le _) (Nat.zero_le _) ?_
  show jx_W (jm_MD_personHere, _, _, _, _, _, _) _ 0 0 0 [some _] [] _
  refine jr_aload rfl rfl ?_
  refine jr_aload rfl rfl ?_
  refine jr_getR rfl rfl rfl rfl (Or.inl rfl) ?_
  refine jr_ic rfl ?_
  refine jr_aload rfl rfl ?_
  refine jr_getI rfl rfl ?_
  refine jr_imul rfl ?_
  refine jr_aload rfl rfl ?_
  refine jr_getR rfl rfl rfl rfl (Or.inl rfl) ?_
  refine jr_aload rfl rfl ?_
  refine jr_getI rfl rfl ?_
  refine jr_iald (len := 2) rfl rfl (by first | exact b4 | exact b2) (by omega) ?_
  rw [show jh_I (h4) 11 0 44 = nI β from b4, show jh_I (h4) 67 0 β = nI (V 0 1) from (congrFun ((g4.1 67 0 (by decide)).trans ((g3.1 67 0 (by decide)).trans ((g2.1 67 0 (by decide)).trans (g1.1 67 0 (by decide))))) β).trans p1, show (5 : Int32) * nI β = nI (5 * β) from jn_mul rfl rfl]
  refine jr_cv3 (mc' := 0) (ms' := 0) rfl jm_MD_here_n jm_MD_here_f rfl rfl rfl rfl rfl rfl rfl (Nat.zero_le _) (Nat.zero_le _) ?_
  refine eM_here_p (B := B) (sz := sz) (t := t + 4) m4 hβ hWp (fun j hj => (congrFun ((g4.2.1 91 0 (by decide)).trans ((g3.2.1 91 0 (by decide)).trans ((g2.2.1 91 0 (by decide)).trans (g1.2.1 91 0 (by decide))))) _).trans ((p2 j hj).2)) (by omega) ?_
  refine jr_iret rfl rfl (Nat.zero_le _) (Nat.zero_le _) ?_
  rw [if_neg k4]
  refine jr_cv1 (mc' := 0) (ms' := 0) rfl jm_MD_told_n jm_MD_told_f rfl rfl rfl rfl rfl rfl rfl (Nat.zero_le _) (Nat.zero_le _) ?_
  refine eM_told_n (B := B) (sz := sz) (t := t + 4) t4 m4 f4 k4 (fun h5 g5 => ?_)
  have e5 : ¬ jh_I h5 11 0 4 = 0 := by rw [g5.2.2.2.1]; exact jX_kd_n _
  have m5 := jT_mc_ft g5 m4
  have b5 : jh_I h5 11 0 44 = nI β := (g5.2.2.1 44 (by decide) (by decide)).trans b4
  refine jr_iast (len := 24) rfl rfl rfl (by omega) ?_
  refine jr_aload rfl rfl ?_
  refine jr_cv0 (mc' := 0) (ms' := 0) rfl jm_MD_isGood_n jm_MD_isGood_f rfl rfl rfl rfl rfl rfl rfl (Nat.zero_le _) (Nat.zero_le _) ?_
  show jx_W (jm_MD_isGood, _, _, _, _, _, _) _ 0 0 0 [some _] [] _
  refine jr_aload rfl rfl ?_
  refine jr_getI rfl rfl ?_
  refine jr_if_ne rfl (fun _ => ?_) (fun z => absurd z e5)
  refine jr_ic rfl ?_
  refine jr_zret rfl rfl rfl (Nat.zero_le _) (Nat.zero_le _) ?_
  refine jr_if_eq rfl (fun _ => ?_) (fun z => absurd (by decide) z)
  refine jr_aload rfl rfl ?_
  refine jr_cv0 (mc' := 0) (ms' := 0) rfl jm_MD_isGood_n jm_MD_isGood_f rfl rfl rfl rfl rfl rfl rfl (Nat.zero_le _) (Nat.zero_le _) ?_
  show jx_W (jm_MD_isGood, _, _, _, _, _, _) _ 0 0 0 [some _] [] _
  refine jr_aload rfl rfl ?_
  refine jr_getI rfl rfl ?_
  refine jr_if_ne rfl (fun _ => ?_) (fun z => absurd z e5)
  refine jr_ic rfl ?_
  refine jr_zret rfl rfl rfl (Nat.zero_le _) (Nat.zero_le _) ?_
  refine jr_if_eq rfl (fun _ => ?_) (fun z => absurd (by decide) z)
  refine jr_aload rfl rfl ?_
  refine jr_getR rfl rfl rfl rfl (Or.inl rfl) ?_
  refine jr_iload rfl rfl ?_
  refine jr_aload rfl rfl ?_
  refine jr_lc rfl ?_
  refine jr_ic rfl ?_
  refine jr_ic rfl ?_
  refine jr_cv3 (mc' := 0) (ms' := 0) rfl jm_MD_after_n jm_MD_after_f rfl rfl rfl rfl rfl rfl rfl (Nat.zero_le _) (Nat.zero_le _) ?_
  show jx_W (jm_MD_after, _, _, _, _, _, _) _ 0 0 0 [some _, some _, none, some _, some _] [] _
  refine jr_aload rfl rfl ?_
  refine jr_aload rfl rfl ?_
  refine jr_lload rfl rfl ?_
  refine jr_cv1 (mc' := 0) (ms' := 0) rfl jm_MD_isWord_n jm_MD_isWord_f rfl rfl rfl rfl rfl rfl rfl (Nat.zero_le _) (Nat.zero_le _) ?_
  refine eM_isWord (B := B) (sz := sz) (t := t + 4) m5 (i := 14) (by decide) jT_W14 ?_
  refine jr_cv1 (mc' := 0) (ms' := 0) rfl jm_MD_must_n jm_MD_must_f rfl rfl rfl rfl rfl rfl rfl (Nat.zero_le _) (Nat.zero_le _) ?_
  refine eM_must_b e5 ?_
  refine jr_aload rfl rfl ?_
  refine jr_iload rfl rfl ?_
  refine jr_iload rfl rfl ?_
  refine jr_cv2 (mc' := 0) (ms' := 0) rfl jm_MD_numeral_n jm_MD_numeral_f rfl rfl rfl rfl rfl rfl rfl (Nat.zero_le _) (Nat.zero_le _) ?_
  refine eM_num_b (lo := 1) (hi := 99) e5 ?_
  refine jr_iret rfl rfl (Nat.zero_le _) (Nat.zero_le _) ?_
  refine jr_iast (len := 24) rfl rfl rfl (by omega) ?_
  refine jr_aload rfl rfl ?_
  refine jr_getR rfl rfl rfl rfl (Or.inl rfl) ?_
  refine jr_iload rfl rfl ?_
  refine jr_aload rfl rfl ?_
  refine jr_lc rfl ?_
  refine jr_ic rfl ?_
  refine jr_ic rfl ?_
  refine jr_cv3 (mc' := 0) (ms' := 0) rfl jm_MD_after_n jm_MD_after_f rfl rfl rfl rfl rfl rfl rfl (Nat.zero_le _) (Nat.zero_le _) ?_
  show jx_W (jm_MD_after, _, _, _, _, _, _) _ 0 0 0 [some _, some _, none, some _, some _] [] _
  refine jr_aload rfl rfl ?_
  refine jr_aload rfl rfl ?_
  refine jr_lload rfl rfl ?_
  refine jr_cv1 (mc' := 0) (ms' := 0) rfl jm_MD_isWord_n jm_MD_isWord_f rfl rfl rfl rfl rfl rfl rfl (Nat.zero_le _) (Nat.zero_le _) ?_
  refine eM_isWord (B := B) (sz := sz) (t := t + 4) m5 (i := 15) (by decide) jT_W15 ?_
  refine jr_cv1 (mc' := 0) (ms' := 0) rfl jm_MD_must_n jm_MD_must_f rfl rfl rfl rfl rfl rfl rfl (Nat.zero_le _) (Nat.zero_le _) ?_
  refine eM_must_b e5 ?_
  refine jr_aload rfl rfl ?_
  refine jr_iload rfl rfl ?_
  refine jr_iload rfl rfl ?_
  refine jr_cv2 (mc' := 0) (ms' := 0) rfl jm_MD_numeral_n jm_MD_numeral_f rfl rfl rfl rfl rfl rfl rfl (Nat.zero_le _) (Nat.zero_le _) ?_
  refine eM_num_b (lo := 1) (hi := 31) e5 ?_
  refine jr_iret rfl rfl (Nat.zero_le _) (Nat.zero_le _) ?_
  refine jr_iast (len := 24) rfl rfl rfl (by omega) ?_
  refine jr_aload rfl rfl ?_
  refine jr_aload rfl rfl ?_
  refine jr_lc rfl ?_
  refine jr_cv1 (mc' := 0) (ms' := 0) rfl jm_MD_isWord_n jm_MD_isWord_f rfl rfl rfl rfl rfl rfl rfl (Nat.zero_le _) (Nat.zero_le _) ?_
  refine eM_isWord (B := B) (sz := sz) (t := t + 4) m5 (i := 16) (by decide) jT_W16 ?_
  refine jr_cv1 (mc' := 0) (ms' := 0) rfl jm_MD_must_n jm_MD_must_f rfl rfl rfl rfl rfl rfl rfl (Nat.zero_le _) (Nat.zero_le _) ?_
  refine eM_must_b e5 ?_
  refine jr_aload rfl rfl ?_
  refine jr_getR rfl rfl rfl rfl (Or.inl rfl) ?_
  refine jr_iload rfl rfl ?_
  refine jr_aload rfl rfl ?_
  refine jr_aload rfl rfl ?_
  refine jr_aload rfl rfl ?_
  refine jr_getR rfl rfl rfl rfl (Or.inl rfl) ?_
  refine jr_ic rfl ?_
  refine jr_aload rfl rfl ?_
  refine jr_getI rfl rfl ?_
  refine jr_imul rfl ?_
  refine jr_aload rfl rfl ?_
  refine jr_getR rfl rfl rfl rfl (Or.inl rfl) ?_
  refine jr_aload rfl rfl ?_
  refine jr_getI rfl rfl ?_
  refine jr_iald (len := 2) rfl rfl b5 (by omega) ?_
  rw [show jh_I (ju_I (ju_I (ju_I (h5) 74 0 (upd (jh_I (h5) 74 0) ((12 * β + V 0 2)) (0))) 75 0 (upd (jh_I (ju_I (h5) 74 0 (upd (jh_I (h5) 74 0) ((12 * β + V 0 2)) (0))) 75 0) ((12 * β + V 0 2)) (nI 1))) 76 0 (upd (jh_I (ju_I (ju_I (h5) 74 0 (upd (jh_I (h5) 74 0) ((12 * β + V 0 2)) (0))) 75 0 (upd (jh_I (ju_I (h5) 74 0 (upd (jh_I (h5) 74 0) ((12 * β + V 0 2)) (0))) 75 0) ((12 * β + V 0 2)) (nI 1))) 76 0) ((12 * β + V 0 2)) (nI 1))) 11 0 44 = nI β from b5, show jh_I (ju_I (ju_I (ju_I (h5) 74 0 (upd (jh_I (h5) 74 0) ((12 * β + V 0 2)) (0))) 75 0 (upd (jh_I (ju_I (h5) 74 0 (upd (jh_I (h5) 74 0) ((12 * β + V 0 2)) (0))) 75 0) ((12 * β + V 0 2)) (nI 1))) 76 0 (upd (jh_I (ju_I (ju_I (h5) 74 0 (upd (jh_I (h5) 74 0) ((12 * β + V 0 2)) (0))) 75 0 (upd (jh_I (ju_I (h5) 74 0 (upd (jh_I (h5) 74 0) ((12 * β + V 0 2)) (0))) 75 0) ((12 * β + V 0 2)) (nI 1))) 76 0) ((12 * β + V 0 2)) (nI 1))) 66 0 β = nI (V 0 0) from (congrFun ((g5.1 66 0 (by decide)).trans ((g4.1 66 0 (by decide)).trans ((g3.1 66 0 (by decide)).trans ((g2.1 66 0 (by decide)).trans (g1.1 66 0 (by decide)))))) β).trans a1, show (6 : Int32) * nI β = nI (6 * β) from jn_mul rfl rfl]
  refine jr_cv3 (mc' := 0) (ms' := 0) rfl jm_MD_here_n jm_MD_here_f rfl rfl rfl rfl rfl rfl rfl (Nat.zero_le _) (Nat.zero_le _) ?_
  refine eM_here_m (B := B) (sz := sz) (t := t + 4) m5 hβ hWm (fun j hj => (congrFun ((congrFun (congrFun (congrArg (·.1) g5.2.1) 90) 0).trans ((g4.2.1 90 0 (by decide)).trans ((g3.2.1 90 0 (by decide)).trans ((g2.2.1 90 0 (by decide)).trans (g1.2.1 90 0 (by decide)))))) _).trans ((a2 j hj).2.2)) (by omega) ?_
  refine jr_cv1 (mc' := 0) (ms' := 0) rfl jm_MD_told_n jm_MD_told_f rfl rfl rfl rfl rfl rfl rfl (Nat.zero_le _) (Nat.zero_le _) ?_
  refine eM_told_b e5 ?_
  refine jr_iast (len := 24) rfl rfl rfl (by omega) ?_
  refine jr_aload rfl rfl ?_
  refine jr_cv0 (mc' := 0) (ms' := 0) rfl jm_MD_isGood_n jm_MD_isGood_f rfl rfl rfl rfl rfl rfl rfl (Nat.zero_le _) (Nat.zero_le _) ?_
  show jx_W (jm_MD_isGood, _, _, _, _, _, _) _ 0 0 0 [some _] [] _
  refine jr_aload rfl rfl ?_
  refine jr_getI rfl rfl ?_
  refine jr_if_ne rfl (fun _ => ?_) (fun z => absurd z e5)
  refine jr_ic rfl ?_
  refine jr_zret rfl rfl rfl (Nat.zero_le _) (Nat.zero_le _) ?_
  refine jr_if_eq rfl (fun _ => ?_) (fun z => absurd (by decide) z)
  refine jr_aload rfl rfl ?_
  refine jr_getR rfl rfl rfl rfl (Or.inl rfl) ?_
  refine jr_iload rfl rfl ?_
  refine jr_aload rfl rfl ?_
  refine jr_lc rfl ?_
  refine jr_cv1 (mc' := 0) (ms' := 0) rfl jm_MD_has_n jm_MD_has_f rfl rfl rfl rfl rfl rfl rfl (Nat.zero_le _) (Nat.zero_le _) ?_
  refine eM_has_b e5 ?_
  refine jr_zast (len := 24) rfl rfl rfl (by omega) ?_
  refine jr_aload rfl rfl ?_
  refine jr_getR rfl rfl rfl rfl (Or.inl rfl) ?_
  refine jr_aload rfl rfl ?_
  refine jr_getI rfl rfl ?_
  refine jr_dup2 rfl ?_
  refine jr_iald (len := 2) rfl rfl b5 (by omega) ?_
  refine jr_ic rfl ?_
  refine jr_iadd rfl ?_
  rw [show jh_I (ju_I (ju_I (ju_I (ju_I (ju_I (h5) 74 0 (upd (jh_I (h5) 74 0) ((12 * β + V 0 2)) (0))) 75 0 (upd (jh_I (ju_I (h5) 74 0 (upd (jh_I (h5) 74 0) ((12 * β + V 0 2)) (0))) 75 0) ((12 * β + V 0 2)) (nI 1))) 76 0 (upd (jh_I (ju_I (ju_I (h5) 74 0 (upd (jh_I (h5) 74 0) ((12 * β + V 0 2)) (0))) 75 0 (upd (jh_I (ju_I (h5) 74 0 (upd (jh_I (h5) 74 0) ((12 * β + V 0 2)) (0))) 75 0) ((12 * β + V 0 2)) (nI 1))) 76 0) ((12 * β + V 0 2)) (nI 1))) 77 0 (upd (jh_I (ju_I (ju_I (ju_I (h5) 74 0 (upd (jh_I (h5) 74 0) ((12 * β + V 0 2)) (0))) 75 0 (upd (jh_I (ju_I (h5) 74 0 (upd (jh_I (h5) 74 0) ((12 * β + V 0 2)) (0))) 75 0) ((12 * β + V 0 2)) (nI 1))) 76 0 (upd (jh_I (ju_I (ju_I (h5) 74 0 (upd (jh_I (h5) 74 0) ((12 * β + V 0 2)) (0))) 75 0 (upd (jh_I (ju_I (h5) 74 0 (upd (jh_I (h5) 74 0) ((12 * β + V 0 2)) (0))) 75 0) ((12 * β + V 0 2)) (nI 1))) 76 0) ((12 * β + V 0 2)) (nI 1))) 77 0) ((12 * β + V 0 2)) (0))) 84 0 (upd (jh_I (ju_I (ju_I (ju_I (ju_I (h5) 74 0 (upd (jh_I (h5) 74 0) ((12 * β + V 0 2)) (0))) 75 0 (upd (jh_I (ju_I (h5) 74 0 (upd (jh_I (h5) 74 0) ((12 * β + V 0 2)) (0))) 75 0) ((12 * β + V 0 2)) (nI 1))) 76 0 (upd (jh_I (ju_I (ju_I (h5) 74 0 (upd (jh_I (h5) 74 0) ((12 * β + V 0 2)) (0))) 75 0 (upd (jh_I (ju_I (h5) 74 0 (upd (jh_I (h5) 74 0) ((12 * β + V 0 2)) (0))) 75 0) ((12 * β + V 0 2)) (nI 1))) 76 0) ((12 * β + V 0 2)) (nI 1))) 77 0 (upd (jh_I (ju_I (ju_I (ju_I (h5) 74 0 (upd (jh_I (h5) 74 0) ((12 * β + V 0 2)) (0))) 75 0 (upd (jh_I (ju_I (h5) 74 0 (upd (jh_I (h5) 74 0) ((12 * β + V 0 2)) (0))) 75 0) ((12 * β + V 0 2)) (nI 1))) 76 0 (upd (jh_I (ju_I (ju_I (h5) 74 0 (upd (jh_I (h5) 74 0) ((12 * β + V 0 2)) (0))) 75 0 (upd (jh_I (ju_I (h5) 74 0 (upd (jh_I (h5) 74 0) ((12 * β + V 0 2)) (0))) 75 0) ((12 * β + V 0 2)) (nI 1))) 76 0) ((12 * β + V 0 2)) (nI 1))) 77 0) ((12 * β + V 0 2)) (0))) 84 0) ((12 * β + V 0 2)) (0 &&& 1))) 68 0 β = nI (V 0 2) from (congrFun ((g5.1 68 0 (by decide)).trans ((g4.1 68 0 (by decide)).trans ((g3.1 68 0 (by decide)).trans ((g2.1 68 0 (by decide)).trans (g1.1 68 0 (by decide)))))) β).trans c1, show nI (V 0 2) + 1 = nI (V 0 2 + 1) from jn_S _]
  refine jr_iast (len := 2) rfl rfl b5 (by omega) ?_
  refine jr_vret rfl rfl (Nat.zero_le _) (Nat.zero_le _) ?_
  exact k _ (jMF_I (a := 68) (w := 1) (jMF_I (a := 84) (w := 12) (jMF_I (a := 77) (w := 12) (jMF_I (a := 76) (w := 12) (jMF_I (a := 75) (w := 12) (jMF_I (a := 74) (w := 12) (jMF_ft (jMF_G (jMF_G (jMF_I (a := 73) (w := 12) (jMF_G (jMF_L (a := 92) (w := 12) (jMF_G (F) g1) (by decide) (by decide) (by omega) (by omega)) g2) (by decide) (by decide) (by omega) (by omega)) g3) g4) g5) (by decide) (by decide) (by omega) (by omega)) (by decide) (by decide) (by omega) (by omega)) (by decide) (by decide) (by omega) (by omega)) (by decide) (by decide) (by omega) (by omega)) (by decide) (by decide) (by omega) (by omega)) (by decide) (by decide) (by omega) (by omega)) g5.2.2.2.1 g5.2.2.2.2

set_option maxHeartbeats 800000 in
set_option maxRecDepth 100000 in
theorem eM_due_b7 {d : Nat} {h : jx_H} {Q : Option jx_V → jx_H → Prop} {h0 : jx_H} {B : Nat → Int32} {sz β t : Nat} {a : Nat} {V : Nat → Nat → Nat} {W : Nat → Nat → List Nat} {D : Nat → Int32} (x : jML h B sz β t V W D) (F : jMF β h0 h) (hβ : β < 2) (hn : V 0 2 < 12) (h5 : V 0 1 ≤ 5) (h6 : V 0 0 ≤ 6) (hW : jnW (W 2) (V 0 2)) (hWp : jnW (W 1) (V 0 1)) (hWm : jnW (W 0) (V 0 0)) (k0 : jT_K B sz t = 3) (n0 : jnF (W 2) (jT_wd B sz (jT_p B sz t)) (V 0 2) 0 = none) (k1 : jT_K B sz (t + 1) = 113) (k2 : jT_K B sz (t + 2) = 3) (j2 : jnF (W 1) (jT_wd B sz (jT_p B sz (t + 2))) (V 0 1) 0 = some a) (k3 : jT_K B sz (t + 3) = 108) (k4 : jT_K B sz (t + 4) = 3) (j4 : jnF (W 1) (jT_wd B sz (jT_p B sz (t + 4))) (V 0 1) 0 = none) (k : ∀ h', jMF β h0 h' → jh_I h' 11 0 4 = 5 → jPl h' (jT_p B sz (t + 4)) → Q none h')  : jx_Ev jm_MD_readDue (d + 8) 0 0 false 1 [jv_r 11 0] h Q := by
  show jx_W (jm_MD_readDue, d + 8, 0, 0, false, 1, _) Q 0 0 0 [some (jv_r 11 0), none] [] _
  obtain ⟨⟨t0, m0, f0, b0, -, -, -, -⟩, ⟨⟨a1, a2⟩, ⟨p1, p2⟩, ⟨c1, c2⟩, -⟩, -⟩ := id x
  have xb := b0
  have hr : ∀ j, j < V 0 2 → jh_L h 92 0 (12 * β + j) = jT_key (W 2 j) := fun j hj => (c2 j hj).2
  have hj2 := (jnF_lt _ _ _ j2).2.1
  refine jr_ic rfl ?_
  refine jr_aload rfl rfl ?_
  refine jr_getI rfl rfl ?_
  refine jr_imul rfl ?_
  refine jr_aload rfl rfl ?_
  refine jr_getR rfl rfl rfl rfl (Or.inl rfl) ?_
  refine jr_aload rfl rfl ?_
  refine jr_getI rfl rfl ?_
  refine jr_iald (len := 2) rfl rfl b0 (by omega) ?_
  refine jr_iadd rfl ?_
  rw [xb, c1, show (12 : Int32) * nI β + nI (V 0 2) = nI (12 * β + V 0 2) from jn_add (jn_mul rfl rfl) rfl]
  refine jr_ist1 rfl rfl ?_
  refine jr_aload rfl rfl ?_
  refine jr_getR rfl rfl rfl rfl (Or.inl rfl) ?_
  refine jr_iload rfl rfl ?_
  refine jr_aload rfl rfl ?_
  refine jr_aload rfl rfl ?_
  refine jr_aload rfl rfl ?_
  refine jr_getR rfl rfl rfl rfl (Or.inl rfl) ?_
  refine jr_ic rfl ?_
  refine jr_aload rfl rfl ?_
  refine jr_getI rfl rfl ?_
  refine jr_imul rfl ?_
  refine jr_aload rfl rfl ?_
  refine jr_getR rfl rfl rfl rfl (Or.inl rfl) ?_
  refine jr_aload rfl rfl ?_
  refine jr_getI rfl rfl ?_
  refine jr_iald (len := 2) rfl rfl b0 (by omega) ?_
  rw [xb, c1, show (12 : Int32) * nI β = nI (12 * β) from jn_mul rfl rfl]
  refine jr_cv3 (mc' := 0) (ms' := 0) rfl jm_MD_here_n jm_MD_here_f rfl rfl rfl rfl rfl rfl rfl (Nat.zero_le _) (Nat.zero_le _) ?_
  refine eM_here_d m0 hβ hW hr (by omega) ?_
  rw [if_pos k0, n0]
  refine jr_cv1 (mc' := 0) (ms' := 0) rfl jm_MD_fresh_n jm_MD_fresh_f rfl rfl rfl rfl rfl rfl rfl (Nat.zero_le _) (Nat.zero_le _) ?_
  refine eM_fresh_y (B := B) (sz := sz) (t := t) t0 m0 f0 k0 (fun h1 g1 m1 => ?_)
  have t1 := jX_t_MG g1 t0
  have f1 : jh_I h1 11 0 4 = 0 := (g1.2.2.2 4 (by decide)).trans f0
  have b1 : jh_I h1 11 0 44 = nI β := (g1.2.2.2 44 (by decide)).trans b0
  refine jr_last (len := 24) rfl rfl rfl (by omega) ?_
  refine jr_aload rfl rfl ?_
  refine jr_aload rfl rfl ?_
  refine jr_lc rfl ?_
  refine jr_cv1 (mc' := 0) (ms' := 0) rfl jm_MD_isWord_n jm_MD_isWord_f rfl rfl rfl rfl rfl rfl rfl (Nat.zero_le _) (Nat.zero_le _) ?_
  refine eM_isWord (B := B) (sz := sz) (t := t + 1) m1 (i := 13) (by decide) jT_W13 ?_
  refine jr_cv1 (mc' := 0) (ms' := 0) rfl jm_MD_must_n jm_MD_must_f rfl rfl rfl rfl rfl rfl rfl (Nat.zero_le _) (Nat.zero_le _) ?_
  refine eM_must_y (B := B) (sz := sz) (t := t + 1) t1 m1 f1 (by rw [if_pos k1]; decide) (fun h2 g2 m2 => ?_)
  have t2 := jX_t_MG g2 t1
  have f2 : jh_I h2 11 0 4 = 0 := (g2.2.2.2 4 (by decide)).trans f1
  have b2 : jh_I h2 11 0 44 = nI β := (g2.2.2.2 44 (by decide)).trans b1
  refine jr_aload rfl rfl ?_
  refine jr_getR rfl rfl rfl rfl (Or.inl rfl) ?_
  refine jr_iload rfl rfl ?_
  refine jr_aload rfl rfl ?_
  refine jr_aload rfl rfl ?_
  refine jr_cv0 (mc' := 0) (ms' := 0) rfl jm_MD_personHere_n jm_MD_personHere_f rfl rfl rfl rfl rfl rfl rfl (Nat.zero_le _) (Nat.zero_le _) ?_
  show jx_W (jm_MD_personHere, _, _, _, _, _, _) _ 0 0 0 [some _] [] _
  refine jr_aload rfl rfl ?_
  refine jr_aload rfl rfl ?_
  refine jr_getR rfl rfl rfl rfl (Or.inl rfl) ?_
  refine jr_ic rfl ?_
  refine jr_aload rfl rfl ?_
  refine jr_getI rfl rfl ?_
  refine jr_imul rfl ?_
  refine jr_aload rfl rfl ?_
  refine jr_getR rfl rfl rfl rfl (Or.inl rfl) ?_
  refine jr_aload rfl rfl ?_
  refine jr_getI rfl rfl ?_
  refine jr_iald (len := 2) rfl rfl (by first | exact b4 | exact b2) (by omega) ?_
  rw [show jh_I (h2) 11 0 44 = nI β from b2, show jh_I (h2) 67 0 β = nI (V 0 1) from (congrFun ((g2.1 67 0 (by decide)).trans (g1.1 67 0 (by decide))) β).trans p1, show (5 : Int32) * nI β = nI (5 * β) from jn_mul rfl rfl]
  refine jr_cv3 (mc' := 0) (ms' := 0) rfl jm_MD_here_n jm_MD_here_f rfl rfl rfl rfl rfl rfl rfl (Nat.zero_le _) (Nat.zero_le _) ?_
  refine eM_here_p (B := B) (sz := sz) (t := t + 2) m2 hβ hWp (fun j hj => (congrFun ((g2.2.1 91 0 (by decide)).trans (g1.2.1 91 0 (by decide))) _).trans ((p2 j hj).2)) (by omega) ?_
  refine jr_iret rfl rfl (Nat.zero_le _) (Nat.zero_le _) ?_
  rw [if_pos k2, j2]
  refine jr_cv1 (mc' := 0) (ms' := 0) rfl jm_MD_told_n jm_MD_told_f rfl rfl rfl rfl rfl rfl rfl (Nat.zero_le _) (Nat.zero_le _) ?_
  refine eM_told_y (j := a) (B := B) (sz := sz) (t := t + 2) t2 m2 f2 k2 (by omega) ?_
  refine jr_iast (len := 24) rfl rfl rfl (by omega) ?_
  refine jr_aload rfl rfl ?_
  refine jr_cv0 (mc' := 0) (ms' := 0) rfl jm_MD_isGood_n jm_MD_isGood_f rfl rfl rfl rfl rfl rfl rfl (Nat.zero_le _) (Nat.zero_le _) ?_
  show jx_W (jm_MD_isGood, _, _, _, _, _, _) _ 0 0 0 [some _] [] _
  refine jr_aload rfl rfl ?_
  refine jr_getI rfl rfl ?_
  refine jr_if_ne rfl (fun z => absurd f2 z) (fun _ => ?_)
  refine jr_ic rfl ?_
  refine jr_goto rfl ?_
  refine jr_zret rfl rfl rfl (Nat.zero_le _) (Nat.zero_le _) ?_
  refine jr_if_eq rfl (fun z => absurd z (by decide)) (fun _ => ?_)
  refine jr_aload rfl rfl ?_
  refine jr_cv0 (mc' := 0) (ms' := 0) rfl jm_MD_goOn_n jm_MD_goOn_f rfl rfl rfl rfl rfl rfl rfl (Nat.zero_le _) (Nat.zero_le _) ?_
  refine eM_goOn (B := B) (sz := sz) (t := t + 3) t2.1 t2.2.1 t2.2.2.1 m2.2.1 (fun h3 g3 m3 => ?_)
  have t3 := jX_t_MG g3 t2
  have f3 : jh_I h3 11 0 4 = 0 := (g3.2.2.2 4 (by decide)).trans f2
  have b3 : jh_I h3 11 0 44 = nI β := (g3.2.2.2 44 (by decide)).trans b2
  refine jr_aload rfl rfl ?_
  refine jr_aload rfl rfl ?_
  refine jr_lc rfl ?_
  refine jr_cv1 (mc' := 0) (ms' := 0) rfl jm_MD_isWord_n jm_MD_isWord_f rfl rfl rfl rfl rfl rfl rfl (Nat.zero_le _) (Nat.zero_le _) ?_
  refine eM_isWord (B := B) (sz := sz) (t := t + 3) m3 (i := 8) (by decide) jT_W8 ?_
  refine jr_cv1 (mc' := 0) (ms' := 0) rfl jm_MD_must_n jm_MD_must_f rfl rfl rfl rfl rfl rfl rfl (Nat.zero_le _) (Nat.zero_le _) ?_
  refine eM_must_y (B := B) (sz := sz) (t := t + 3) t3 m3 f3 (by rw [if_pos k3]; decide) (fun h4 g4 m4 => ?_)
  have t4 := jX_t_MG g4 t3
  have f4 : jh_I h4 11 0 4 = 0 := (g4.2.2.2 4 (by decide)).trans f3
  have b4 : jh_I h4 11 0 44 = nI β := (g4.2.2.2 44 (by decide)).trans b3
  refine jr_aload rfl rfl ?_
  refine jr_getR rfl rfl rfl rfl (Or.inl rfl) ?_
  refine jr_iload rfl rfl ?_
  refine jr_aload rfl rfl ?_
  refine jr_aload rfl rfl ?_
  refine jr_cv0 (mc' := 0) (ms' := 0) rfl jm_MD_personHere_n jm_MD_personHere_f rfl rfl rfl rfl rfl rfl rfl (Nat.zero_le _) (Nat.zero_le _) ?_
  show jx_W (jm_MD_personHere, _, _, _, _, _, _) _ 0 0 0 [some _] [] _
  refine jr_aload rfl rfl ?_
  refine jr_aload rfl rfl ?_
  refine jr_getR rfl rfl rfl rfl (Or.inl rfl) ?_
  refine jr_ic rfl ?_
  refine jr_aload rfl rfl ?_
  refine jr_getI rfl rfl ?_
  refine jr_imul rfl ?_
  refine jr_aload rfl rfl ?_
  refine jr_getR rfl rfl rfl rfl (Or.inl rfl) ?_
  refine jr_aload rfl rfl ?_
  refine jr_getI rfl rfl ?_
  refine jr_iald (len := 2) rfl rfl (by first | exact b4 | exact b2) (by omega) ?_
  rw [show jh_I (h4) 11 0 44 = nI β from b4, show jh_I (h4) 67 0 β = nI (V 0 1) from (congrFun ((g4.1 67 0 (by decide)).trans ((g3.1 67 0 (by decide)).trans ((g2.1 67 0 (by decide)).trans (g1.1 67 0 (by decide))))) β).trans p1, show (5 : Int32) * nI β = nI (5 * β) from jn_mul rfl rfl]
  refine jr_cv3 (mc' := 0) (ms' := 0) rfl jm_MD_here_n jm_MD_here_f rfl rfl rfl rfl rfl rfl rfl (Nat.zero_le _) (Nat.zero_le _) ?_
  refine eM_here_p (B := B) (sz := sz) (t := t + 4) m4 hβ hWp (fun j hj => (congrFun ((g4.2.1 91 0 (by decide)).trans ((g3.2.1 91 0 (by decide)).trans ((g2.2.1 91 0 (by decide)).trans (g1.2.1 91 0 (by decide))))) _).trans ((p2 j hj).2)) (by omega) ?_
  refine jr_iret rfl rfl (Nat.zero_le _) (Nat.zero_le _) ?_
  rw [if_pos k4, j4]
  refine jr_cv1 (mc' := 0) (ms' := 0) rfl jm_MD_told_n jm_MD_told_f rfl rfl rfl rfl rfl rfl rfl (Nat.zero_le _) (Nat.zero_le _) ?_
  refine eM_told_u (B := B) (sz := sz) (t := t + 4) t4 m4 f4 k4 (fun h5 g5 => ?_)
  have e5 : ¬ jh_I h5 11 0 4 = 0 := by rw [g5.2.2.2.1]; exact (by decide)
  have m5 := jT_mc_ft g5 m4
  have b5 : jh_I h5 11 0 44 = nI β := (g5.2.2.1 44 (by decide) (by decide)).trans b4
  refine jr_iast (len := 24) rfl rfl rfl (by omega) ?_
  refine jr_aload rfl rfl ?_
  refine jr_cv0 (mc' := 0) (ms' := 0) rfl jm_MD_isGood_n jm_MD_isGood_f rfl rfl rfl rfl rfl rfl rfl (Nat.zero_le _) (Nat.zero_le _) ?_
  show jx_W (jm_MD_isGood, _, _, _, _, _, _) _ 0 0 0 [some _] [] _
  refine jr_aload rfl rfl ?_
  refine jr_getI rfl rfl ?_
  refine jr_if_ne rfl (fun _ => ?_) (fun z => absurd z e5)
  refine jr_ic rfl ?_
  refine jr_zret rfl rfl rfl (Nat.zero_le _) (Nat.zero_le _) ?_
  refine jr_if_eq rfl (fun _ => ?_) (fun z => absurd (by decide) z)
  refine jr_aload rfl rfl ?_
  refine jr_cv0 (mc' := 0) (ms' := 0) rfl jm_MD_isGood_n jm_MD_isGood_f rfl rfl rfl rfl rfl rfl rfl (Nat.zero_le _) (Nat.zero_le _) ?_
  show jx_W (jm_MD_isGood, _, _, _, _, _, _) _ 0 0 0 [some _] [] _
  refine jr_aload rfl rfl ?_
  refine jr_getI rfl rfl ?_
  refine jr_if_ne rfl (fun _ => ?_) (fun z => absurd z e5)
  refine jr_ic rfl ?_
  refine jr_zret rfl rfl rfl (Nat.zero_le _) (Nat.zero_le _) ?_
  refine jr_if_eq rfl (fun _ => ?_) (fun z => absurd (by decide) z)
  refine jr_aload rfl rfl ?_
  refine jr_getR rfl rfl rfl rfl (Or.inl rfl) ?_
  refine jr_iload rfl rfl ?_
  refine jr_aload rfl rfl ?_
  refine jr_lc rfl ?_
  refine jr_ic rfl ?_
  refine jr_ic rfl ?_
  refine jr_cv3 (mc' := 0) (ms' := 0) rfl jm_MD_after_n jm_MD_after_f rfl rfl rfl rfl rfl rfl rfl (Nat.zero_le _) (Nat.zero_le _) ?_
  show jx_W (jm_MD_after, _, _, _, _, _, _) _ 0 0 0 [some _, some _, none, some _, some _] [] _
  refine jr_aload rfl rfl ?_
  refine jr_aload rfl rfl ?_
  refine jr_lload rfl rfl ?_
  refine jr_cv1 (mc' := 0) (ms' := 0) rfl jm_MD_isWord_n jm_MD_isWord_f rfl rfl rfl rfl rfl rfl rfl (Nat.zero_le _) (Nat.zero_le _) ?_
  refine eM_isWord (B := B) (sz := sz) (t := t + 4) m5 (i := 14) (by decide) jT_W14 ?_
  refine jr_cv1 (mc' := 0) (ms' := 0) rfl jm_MD_must_n jm_MD_must_f rfl rfl rfl rfl rfl rfl rfl (Nat.zero_le _) (Nat.zero_le _) ?_
  refine eM_must_b e5 ?_
  refine jr_aload rfl rfl ?_
  refine jr_iload rfl rfl ?_
  refine jr_iload rfl rfl ?_
  refine jr_cv2 (mc' := 0) (ms' := 0) rfl jm_MD_numeral_n jm_MD_numeral_f rfl rfl rfl rfl rfl rfl rfl (Nat.zero_le _) (Nat.zero_le _) ?_
  refine eM_num_b (lo := 1) (hi := 99) e5 ?_
  refine jr_iret rfl rfl (Nat.zero_le _) (Nat.zero_le _) ?_
  refine jr_iast (len := 24) rfl rfl rfl (by omega) ?_
  refine jr_aload rfl rfl ?_
  refine jr_getR rfl rfl rfl rfl (Or.inl rfl) ?_
  refine jr_iload rfl rfl ?_
  refine jr_aload rfl rfl ?_
  refine jr_lc rfl ?_
  refine jr_ic rfl ?_
  refine jr_ic rfl ?_
  refine jr_cv3 (mc' := 0) (ms' := 0) rfl jm_MD_after_n jm_MD_after_f rfl rfl rfl rfl rfl rfl rfl (Nat.zero_le _) (Nat.zero_le _) ?_
  show jx_W (jm_MD_after, _, _, _, _, _, _) _ 0 0 0 [some _, some _, none, some _, some _] [] _
  refine jr_aload rfl rfl ?_
  refine jr_aload rfl rfl ?_
  refine jr_lload rfl rfl ?_
  refine jr_cv1 (mc' := 0) (ms' := 0) rfl jm_MD_isWord_n jm_MD_isWord_f rfl rfl rfl rfl rfl rfl rfl (Nat.zero_le _) (Nat.zero_le _) ?_
  refine eM_isWord (B := B) (sz := sz) (t := t + 4) m5 (i := 15) (by decide) jT_W15 ?_
  refine jr_cv1 (mc' := 0) (ms' := 0) rfl jm_MD_must_n jm_MD_must_f rfl rfl rfl rfl rfl rfl rfl (Nat.zero_le _) (Nat.zero_le _) ?_
  refine eM_must_b e5 ?_
  refine jr_aload rfl rfl ?_
  refine jr_iload rfl rfl ?_
  refine jr_iload rfl rfl ?_
  refine jr_cv2 (mc' := 0) (ms' := 0) rfl jm_MD_numeral_n jm_MD_numeral_f rfl rfl rfl rfl rfl rfl rfl (Nat.zero_le _) (Nat.zero_le _) ?_
  refine eM_num_b (lo := 1) (hi := 31) e5 ?_
  refine jr_iret rfl rfl (Nat.zero_le _) (Nat.zero_le _) ?_
  refine jr_iast (len := 24) rfl rfl rfl (by omega) ?_
  refine jr_aload rfl rfl ?_
  refine jr_aload rfl rfl ?_
  refine jr_lc rfl ?_
  refine jr_cv1 (mc' := 0) (ms' := 0) rfl jm_MD_isWord_n jm_MD_isWord_f rfl rfl rfl rfl rfl rfl rfl (Nat.zero_le _) (Nat.zero_le _) ?_
  refine eM_isWord (B := B) (sz := sz) (t := t + 4) m5 (i := 16) (by decide) jT_W16 ?_
  refine jr_cv1 (mc' := 0) (ms' := 0) rfl jm_MD_must_n jm_MD_must_f rfl rfl rfl rfl rfl rfl rfl (Nat.zero_le _) (Nat.zero_le _) ?_
  refine eM_must_b e5 ?_
  refine jr_aload rfl rfl ?_
  refine jr_getR rfl rfl rfl rfl (Or.inl rfl) ?_
  refine jr_iload rfl rfl ?_
  refine jr_aload rfl rfl ?_
  refine jr_aload rfl rfl ?_
  refine jr_aload rfl rfl ?_
  refine jr_getR rfl rfl rfl rfl (Or.inl rfl) ?_
  refine jr_ic rfl ?_
  refine jr_aload rfl rfl ?_
  refine jr_getI rfl rfl ?_
  refine jr_imul rfl ?_
  refine jr_aload rfl rfl ?_
  refine jr_getR rfl rfl rfl rfl (Or.inl rfl) ?_
  refine jr_aload rfl rfl ?_
  refine jr_getI rfl rfl ?_
  refine jr_iald (len := 2) rfl rfl b5 (by omega) ?_
  rw [show jh_I (ju_I (ju_I (ju_I (h5) 74 0 (upd (jh_I (h5) 74 0) ((12 * β + V 0 2)) (0))) 75 0 (upd (jh_I (ju_I (h5) 74 0 (upd (jh_I (h5) 74 0) ((12 * β + V 0 2)) (0))) 75 0) ((12 * β + V 0 2)) (nI 1))) 76 0 (upd (jh_I (ju_I (ju_I (h5) 74 0 (upd (jh_I (h5) 74 0) ((12 * β + V 0 2)) (0))) 75 0 (upd (jh_I (ju_I (h5) 74 0 (upd (jh_I (h5) 74 0) ((12 * β + V 0 2)) (0))) 75 0) ((12 * β + V 0 2)) (nI 1))) 76 0) ((12 * β + V 0 2)) (nI 1))) 11 0 44 = nI β from b5, show jh_I (ju_I (ju_I (ju_I (h5) 74 0 (upd (jh_I (h5) 74 0) ((12 * β + V 0 2)) (0))) 75 0 (upd (jh_I (ju_I (h5) 74 0 (upd (jh_I (h5) 74 0) ((12 * β + V 0 2)) (0))) 75 0) ((12 * β + V 0 2)) (nI 1))) 76 0 (upd (jh_I (ju_I (ju_I (h5) 74 0 (upd (jh_I (h5) 74 0) ((12 * β + V 0 2)) (0))) 75 0 (upd (jh_I (ju_I (h5) 74 0 (upd (jh_I (h5) 74 0) ((12 * β + V 0 2)) (0))) 75 0) ((12 * β + V 0 2)) (nI 1))) 76 0) ((12 * β + V 0 2)) (nI 1))) 66 0 β = nI (V 0 0) from (congrFun ((g5.1 66 0 (by decide)).trans ((g4.1 66 0 (by decide)).trans ((g3.1 66 0 (by decide)).trans ((g2.1 66 0 (by decide)).trans (g1.1 66 0 (by decide)))))) β).trans a1, show (6 : Int32) * nI β = nI (6 * β) from jn_mul rfl rfl]
  refine jr_cv3 (mc' := 0) (ms' := 0) rfl jm_MD_here_n jm_MD_here_f rfl rfl rfl rfl rfl rfl rfl (Nat.zero_le _) (Nat.zero_le _) ?_
  refine eM_here_m (B := B) (sz := sz) (t := t + 4) m5 hβ hWm (fun j hj => (congrFun ((congrFun (congrFun (congrArg (·.1) g5.2.1) 90) 0).trans ((g4.2.1 90 0 (by decide)).trans ((g3.2.1 90 0 (by decide)).trans ((g2.2.1 90 0 (by decide)).trans (g1.2.1 90 0 (by decide)))))) _).trans ((a2 j hj).2.2)) (by omega) ?_
  refine jr_cv1 (mc' := 0) (ms' := 0) rfl jm_MD_told_n jm_MD_told_f rfl rfl rfl rfl rfl rfl rfl (Nat.zero_le _) (Nat.zero_le _) ?_
  refine eM_told_b e5 ?_
  refine jr_iast (len := 24) rfl rfl rfl (by omega) ?_
  refine jr_aload rfl rfl ?_
  refine jr_cv0 (mc' := 0) (ms' := 0) rfl jm_MD_isGood_n jm_MD_isGood_f rfl rfl rfl rfl rfl rfl rfl (Nat.zero_le _) (Nat.zero_le _) ?_
  show jx_W (jm_MD_isGood, _, _, _, _, _, _) _ 0 0 0 [some _] [] _
  refine jr_aload rfl rfl ?_
  refine jr_getI rfl rfl ?_
  refine jr_if_ne rfl (fun _ => ?_) (fun z => absurd z e5)
  refine jr_ic rfl ?_
  refine jr_zret rfl rfl rfl (Nat.zero_le _) (Nat.zero_le _) ?_
  refine jr_if_eq rfl (fun _ => ?_) (fun z => absurd (by decide) z)
  refine jr_aload rfl rfl ?_
  refine jr_getR rfl rfl rfl rfl (Or.inl rfl) ?_
  refine jr_iload rfl rfl ?_
  refine jr_aload rfl rfl ?_
  refine jr_lc rfl ?_
  refine jr_cv1 (mc' := 0) (ms' := 0) rfl jm_MD_has_n jm_MD_has_f rfl rfl rfl rfl rfl rfl rfl (Nat.zero_le _) (Nat.zero_le _) ?_
  refine eM_has_b e5 ?_
  refine jr_zast (len := 24) rfl rfl rfl (by omega) ?_
  refine jr_aload rfl rfl ?_
  refine jr_getR rfl rfl rfl rfl (Or.inl rfl) ?_
  refine jr_aload rfl rfl ?_
  refine jr_getI rfl rfl ?_
  refine jr_dup2 rfl ?_
  refine jr_iald (len := 2) rfl rfl b5 (by omega) ?_
  refine jr_ic rfl ?_
  refine jr_iadd rfl ?_
  rw [show jh_I (ju_I (ju_I (ju_I (ju_I (ju_I (h5) 74 0 (upd (jh_I (h5) 74 0) ((12 * β + V 0 2)) (0))) 75 0 (upd (jh_I (ju_I (h5) 74 0 (upd (jh_I (h5) 74 0) ((12 * β + V 0 2)) (0))) 75 0) ((12 * β + V 0 2)) (nI 1))) 76 0 (upd (jh_I (ju_I (ju_I (h5) 74 0 (upd (jh_I (h5) 74 0) ((12 * β + V 0 2)) (0))) 75 0 (upd (jh_I (ju_I (h5) 74 0 (upd (jh_I (h5) 74 0) ((12 * β + V 0 2)) (0))) 75 0) ((12 * β + V 0 2)) (nI 1))) 76 0) ((12 * β + V 0 2)) (nI 1))) 77 0 (upd (jh_I (ju_I (ju_I (ju_I (h5) 74 0 (upd (jh_I (h5) 74 0) ((12 * β + V 0 2)) (0))) 75 0 (upd (jh_I (ju_I (h5) 74 0 (upd (jh_I (h5) 74 0) ((12 * β + V 0 2)) (0))) 75 0) ((12 * β + V 0 2)) (nI 1))) 76 0 (upd (jh_I (ju_I (ju_I (h5) 74 0 (upd (jh_I (h5) 74 0) ((12 * β + V 0 2)) (0))) 75 0 (upd (jh_I (ju_I (h5) 74 0 (upd (jh_I (h5) 74 0) ((12 * β + V 0 2)) (0))) 75 0) ((12 * β + V 0 2)) (nI 1))) 76 0) ((12 * β + V 0 2)) (nI 1))) 77 0) ((12 * β + V 0 2)) (0))) 84 0 (upd (jh_I (ju_I (ju_I (ju_I (ju_I (h5) 74 0 (upd (jh_I (h5) 74 0) ((12 * β + V 0 2)) (0))) 75 0 (upd (jh_I (ju_I (h5) 74 0 (upd (jh_I (h5) 74 0) ((12 * β + V 0 2)) (0))) 75 0) ((12 * β + V 0 2)) (nI 1))) 76 0 (upd (jh_I (ju_I (ju_I (h5) 74 0 (upd (jh_I (h5) 74 0) ((12 * β + V 0 2)) (0))) 75 0 (upd (jh_I (ju_I (h5) 74 0 (upd (jh_I (h5) 74 0) ((12 * β + V 0 2)) (0))) 75 0) ((12 * β + V 0 2)) (nI 1))) 76 0) ((12 * β + V 0 2)) (nI 1))) 77 0 (upd (jh_I (ju_I (ju_I (ju_I (h5) 74 0 (upd (jh_I (h5) 74 0) ((12 * β + V 0 2)) (0))) 75 0 (upd (jh_I (ju_I (h5) 74 0 (upd (jh_I (h5) 74 0) ((12 * β + V 0 2)) (0))) 75 0) ((12 * β + V 0 2)) (nI 1))) 76 0 (upd (jh_I (ju_I (ju_I (h5) 74 0 (upd (jh_I (h5) 74 0) ((12 * β + V 0 2)) (0))) 75 0 (upd (jh_I (ju_I (h5) 74 0 (upd (jh_I (h5) 74 0) ((12 * β + V 0 2)) (0))) 75 0) ((12 * β + V 0 2)) (nI 1))) 76 0) ((12 * β + V 0 2)) (nI 1))) 77 0) ((12 * β + V 0 2)) (0))) 84 0) ((12 * β + V 0 2)) (0 &&& 1))) 68 0 β = nI (V 0 2) from (congrFun ((g5.1 68 0 (by decide)).trans ((g4.1 68 0 (by decide)).trans ((g3.1 68 0 (by decide)).trans ((g2.1 68 0 (by decide)).trans (g1.1 68 0 (by decide)))))) β).trans c1, show nI (V 0 2) + 1 = nI (V 0 2 + 1) from jn_S _]
  refine jr_iast (len := 2) rfl rfl b5 (by omega) ?_
  refine jr_vret rfl rfl (Nat.zero_le _) (Nat.zero_le _) ?_
  exact k _ (jMF_I (a := 68) (w := 1) (jMF_I (a := 84) (w := 12) (jMF_I (a := 77) (w := 12) (jMF_I (a := 76) (w := 12) (jMF_I (a := 75) (w := 12) (jMF_I (a := 74) (w := 12) (jMF_ft (jMF_G (jMF_G (jMF_I (a := 73) (w := 12) (jMF_G (jMF_L (a := 92) (w := 12) (jMF_G (F) g1) (by decide) (by decide) (by omega) (by omega)) g2) (by decide) (by decide) (by omega) (by omega)) g3) g4) g5) (by decide) (by decide) (by omega) (by omega)) (by decide) (by decide) (by omega) (by omega)) (by decide) (by decide) (by omega) (by omega)) (by decide) (by decide) (by omega) (by omega)) (by decide) (by decide) (by omega) (by omega)) (by decide) (by decide) (by omega) (by omega)) g5.2.2.2.1 g5.2.2.2.2

set_option maxHeartbeats 800000 in
set_option maxRecDepth 100000 in
theorem eM_due_b8 {d : Nat} {h : jx_H} {Q : Option jx_V → jx_H → Prop} {h0 : jx_H} {B : Nat → Int32} {sz β t : Nat} {a b : Nat} {V : Nat → Nat → Nat} {W : Nat → Nat → List Nat} {D : Nat → Int32} (x : jML h B sz β t V W D) (F : jMF β h0 h) (hβ : β < 2) (hn : V 0 2 < 12) (h5 : V 0 1 ≤ 5) (h6 : V 0 0 ≤ 6) (hW : jnW (W 2) (V 0 2)) (hWp : jnW (W 1) (V 0 1)) (hWm : jnW (W 0) (V 0 0)) (k0 : jT_K B sz t = 3) (n0 : jnF (W 2) (jT_wd B sz (jT_p B sz t)) (V 0 2) 0 = none) (k1 : jT_K B sz (t + 1) = 113) (k2 : jT_K B sz (t + 2) = 3) (j2 : jnF (W 1) (jT_wd B sz (jT_p B sz (t + 2))) (V 0 1) 0 = some a) (k3 : jT_K B sz (t + 3) = 108) (k4 : jT_K B sz (t + 4) = 3) (j4 : jnF (W 1) (jT_wd B sz (jT_p B sz (t + 4))) (V 0 1) 0 = some b) (i4 : b = a) (k : ∀ h', jMF β h0 h' → jh_I h' 11 0 4 = 3 → jPl h' (jT_p B sz (t + 4)) → Q none h')  : jx_Ev jm_MD_readDue (d + 8) 0 0 false 1 [jv_r 11 0] h Q := by
  show jx_W (jm_MD_readDue, d + 8, 0, 0, false, 1, _) Q 0 0 0 [some (jv_r 11 0), none] [] _
  obtain ⟨⟨t0, m0, f0, b0, -, -, -, -⟩, ⟨⟨a1, a2⟩, ⟨p1, p2⟩, ⟨c1, c2⟩, -⟩, -⟩ := id x
  have xb := b0
  have hr : ∀ j, j < V 0 2 → jh_L h 92 0 (12 * β + j) = jT_key (W 2 j) := fun j hj => (c2 j hj).2
  have hj2 := (jnF_lt _ _ _ j2).2.1
  have hj4 := (jnF_lt _ _ _ j4).2.1
  refine jr_ic rfl ?_
  refine jr_aload rfl rfl ?_
  refine jr_getI rfl rfl ?_
  refine jr_imul rfl ?_
  refine jr_aload rfl rfl ?_
  refine jr_getR rfl rfl rfl rfl (Or.inl rfl) ?_
  refine jr_aload rfl rfl ?_
  refine jr_getI rfl rfl ?_
  refine jr_iald (len := 2) rfl rfl b0 (by omega) ?_
  refine jr_iadd rfl ?_
  rw [xb, c1, show (12 : Int32) * nI β + nI (V 0 2) = nI (12 * β + V 0 2) from jn_add (jn_mul rfl rfl) rfl]
  refine jr_ist1 rfl rfl ?_
  refine jr_aload rfl rfl ?_
  refine jr_getR rfl rfl rfl rfl (Or.inl rfl) ?_
  refine jr_iload rfl rfl ?_
  refine jr_aload rfl rfl ?_
  refine jr_aload rfl rfl ?_
  refine jr_aload rfl rfl ?_
  refine jr_getR rfl rfl rfl rfl (Or.inl rfl) ?_
  refine jr_ic rfl ?_
  refine jr_aload rfl rfl ?_
  refine jr_getI rfl rfl ?_
  refine jr_imul rfl ?_
  refine jr_aload rfl rfl ?_
  refine jr_getR rfl rfl rfl rfl (Or.inl rfl) ?_
  refine jr_aload rfl rfl ?_
  refine jr_getI rfl rfl ?_
  refine jr_iald (len := 2) rfl rfl b0 (by omega) ?_
  rw [xb, c1, show (12 : Int32) * nI β = nI (12 * β) from jn_mul rfl rfl]
  refine jr_cv3 (mc' := 0) (ms' := 0) rfl jm_MD_here_n jm_MD_here_f rfl rfl rfl rfl rfl rfl rfl (Nat.zero_le _) (Nat.zero_le _) ?_
  refine eM_here_d m0 hβ hW hr (by omega) ?_
  rw [if_pos k0, n0]
  refine jr_cv1 (mc' := 0) (ms' := 0) rfl jm_MD_fresh_n jm_MD_fresh_f rfl rfl rfl rfl rfl rfl rfl (Nat.zero_le _) (Nat.zero_le _) ?_
  refine eM_fresh_y (B := B) (sz := sz) (t := t) t0 m0 f0 k0 (fun h1 g1 m1 => ?_)
  have t1 := jX_t_MG g1 t0
  have f1 : jh_I h1 11 0 4 = 0 := (g1.2.2.2 4 (by decide)).trans f0
  have b1 : jh_I h1 11 0 44 = nI β := (g1.2.2.2 44 (by decide)).trans b0
  refine jr_last (len := 24) rfl rfl rfl (by omega) ?_
  refine jr_aload rfl rfl ?_
  refine jr_aload rfl rfl ?_
  refine jr_lc rfl ?_
  refine jr_cv1 (mc' := 0) (ms' := 0) rfl jm_MD_isWord_n jm_MD_isWord_f rfl rfl rfl rfl rfl rfl rfl (Nat.zero_le _) (Nat.zero_le _) ?_
  refine eM_isWord (B := B) (sz := sz) (t := t + 1) m1 (i := 13) (by decide) jT_W13 ?_
  refine jr_cv1 (mc' := 0) (ms' := 0) rfl jm_MD_must_n jm_MD_must_f rfl rfl rfl rfl rfl rfl rfl (Nat.zero_le _) (Nat.zero_le _) ?_
  refine eM_must_y (B := B) (sz := sz) (t := t + 1) t1 m1 f1 (by rw [if_pos k1]; decide) (fun h2 g2 m2 => ?_)
  have t2 := jX_t_MG g2 t1
  have f2 : jh_I h2 11 0 4 = 0 := (g2.2.2.2 4 (by decide)).trans f1
  have b2 : jh_I h2 11 0 44 = nI β := (g2.2.2.2 44 (by decide)).trans b1
  refine jr_aload rfl rfl ?_
  refine jr_getR rfl rfl rfl rfl (Or.inl rfl) ?_
  refine jr_iload rfl rfl ?_
  refine jr_aload rfl rfl ?_
  refine jr_aload rfl rfl ?_
  refine jr_cv0 (mc' := 0) (ms' := 0) rfl jm_MD_personHere_n jm_MD_personHere_f rfl rfl rfl rfl rfl rfl rfl (Nat.zero_le _) (Nat.zero_le _) ?_
  show jx_W (jm_MD_personHere, _, _, _, _, _, _) _ 0 0 0 [some _] [] _
  refine jr_aload rfl rfl ?_
  refine jr_aload rfl rfl ?_
  refine jr_getR rfl rfl rfl rfl (Or.inl rfl) ?_
  refine jr_ic rfl ?_
  refine jr_aload rfl rfl ?_
  refine jr_getI rfl rfl ?_
  refine jr_imul rfl ?_
  refine jr_aload rfl rfl ?_
  refine jr_getR rfl rfl rfl rfl (Or.inl rfl) ?_
  refine jr_aload rfl rfl ?_
  refine jr_getI rfl rfl ?_
  refine jr_iald (len := 2) rfl rfl (by first | exact b4 | exact b2) (by omega) ?_
  rw [show jh_I (h2) 11 0 44 = nI β from b2, show jh_I (h2) 67 0 β = nI (V 0 1) from (congrFun ((g2.1 67 0 (by decide)).trans (g1.1 67 0 (by decide))) β).trans p1, show (5 : Int32) * nI β = nI (5 * β) from jn_mul rfl rfl]
  refine jr_cv3 (mc' := 0) (ms' := 0) rfl jm_MD_here_n jm_MD_here_f rfl rfl rfl rfl rfl rfl rfl (Nat.zero_le _) (Nat.zero_le _) ?_
  refine eM_here_p (B := B) (sz := sz) (t := t + 2) m2 hβ hWp (fun j hj => (congrFun ((g2.2.1 91 0 (by decide)).trans (g1.2.1 91 0 (by decide))) _).trans ((p2 j hj).2)) (by omega) ?_
  refine jr_iret rfl rfl (Nat.zero_le _) (Nat.zero_le _) ?_
  rw [if_pos k2, j2]
  refine jr_cv1 (mc' := 0) (ms' := 0) rfl jm_MD_told_n jm_MD_told_f rfl rfl rfl rfl rfl rfl rfl (Nat.zero_le _) (Nat.zero_le _) ?_
  refine eM_told_y (j := a) (B := B) (sz := sz) (t := t + 2) t2 m2 f2 k2 (by omega) ?_
  refine jr_iast (len := 24) rfl rfl rfl (by omega) ?_
  refine jr_aload rfl rfl ?_
  refine jr_cv0 (mc' := 0) (ms' := 0) rfl jm_MD_isGood_n jm_MD_isGood_f rfl rfl rfl rfl rfl rfl rfl (Nat.zero_le _) (Nat.zero_le _) ?_
  show jx_W (jm_MD_isGood, _, _, _, _, _, _) _ 0 0 0 [some _] [] _
  refine jr_aload rfl rfl ?_
  refine jr_getI rfl rfl ?_
  refine jr_if_ne rfl (fun z => absurd f2 z) (fun _ => ?_)
  refine jr_ic rfl ?_
  refine jr_goto rfl ?_
  refine jr_zret rfl rfl rfl (Nat.zero_le _) (Nat.zero_le _) ?_
  refine jr_if_eq rfl (fun z => absurd z (by decide)) (fun _ => ?_)
  refine jr_aload rfl rfl ?_
  refine jr_cv0 (mc' := 0) (ms' := 0) rfl jm_MD_goOn_n jm_MD_goOn_f rfl rfl rfl rfl rfl rfl rfl (Nat.zero_le _) (Nat.zero_le _) ?_
  refine eM_goOn (B := B) (sz := sz) (t := t + 3) t2.1 t2.2.1 t2.2.2.1 m2.2.1 (fun h3 g3 m3 => ?_)
  have t3 := jX_t_MG g3 t2
  have f3 : jh_I h3 11 0 4 = 0 := (g3.2.2.2 4 (by decide)).trans f2
  have b3 : jh_I h3 11 0 44 = nI β := (g3.2.2.2 44 (by decide)).trans b2
  refine jr_aload rfl rfl ?_
  refine jr_aload rfl rfl ?_
  refine jr_lc rfl ?_
  refine jr_cv1 (mc' := 0) (ms' := 0) rfl jm_MD_isWord_n jm_MD_isWord_f rfl rfl rfl rfl rfl rfl rfl (Nat.zero_le _) (Nat.zero_le _) ?_
  refine eM_isWord (B := B) (sz := sz) (t := t + 3) m3 (i := 8) (by decide) jT_W8 ?_
  refine jr_cv1 (mc' := 0) (ms' := 0) rfl jm_MD_must_n jm_MD_must_f rfl rfl rfl rfl rfl rfl rfl (Nat.zero_le _) (Nat.zero_le _) ?_
  refine eM_must_y (B := B) (sz := sz) (t := t + 3) t3 m3 f3 (by rw [if_pos k3]; decide) (fun h4 g4 m4 => ?_)
  have t4 := jX_t_MG g4 t3
  have f4 : jh_I h4 11 0 4 = 0 := (g4.2.2.2 4 (by decide)).trans f3
  have b4 : jh_I h4 11 0 44 = nI β := (g4.2.2.2 44 (by decide)).trans b3
  refine jr_aload rfl rfl ?_
  refine jr_getR rfl rfl rfl rfl (Or.inl rfl) ?_
  refine jr_iload rfl rfl ?_
  refine jr_aload rfl rfl ?_
  refine jr_aload rfl rfl ?_
  refine jr_cv0 (mc' := 0) (ms' := 0) rfl jm_MD_personHere_n jm_MD_personHere_f rfl rfl rfl rfl rfl rfl rfl (Nat.zero_le _) (Nat.zero_le _) ?_
  show jx_W (jm_MD_personHere, _, _, _, _, _, _) _ 0 0 0 [some _] [] _
  refine jr_aload rfl rfl ?_
  refine jr_aload rfl rfl ?_
  refine jr_getR rfl rfl rfl rfl (Or.inl rfl) ?_
  refine jr_ic rfl ?_
  refine jr_aload rfl rfl ?_
  refine jr_getI rfl rfl ?_
  refine jr_imul rfl ?_
  refine jr_aload rfl rfl ?_
  refine jr_getR rfl rfl rfl rfl (Or.inl rfl) ?_
  refine jr_aload rfl rfl ?_
  refine jr_getI rfl rfl ?_
  refine jr_iald (len := 2) rfl rfl (by first | exact b4 | exact b2) (by omega) ?_
  rw [show jh_I (h4) 11 0 44 = nI β from b4, show jh_I (h4) 67 0 β = nI (V 0 1) from (congrFun ((g4.1 67 0 (by decide)).trans ((g3.1 67 0 (by decide)).trans ((g2.1 67 0 (by decide)).trans (g1.1 67 0 (by decide))))) β).trans p1, show (5 : Int32) * nI β = nI (5 * β) from jn_mul rfl rfl]
  refine jr_cv3 (mc' := 0) (ms' := 0) rfl jm_MD_here_n jm_MD_here_f rfl rfl rfl rfl rfl rfl rfl (Nat.zero_le _) (Nat.zero_le _) ?_
  refine eM_here_p (B := B) (sz := sz) (t := t + 4) m4 hβ hWp (fun j hj => (congrFun ((g4.2.1 91 0 (by decide)).trans ((g3.2.1 91 0 (by decide)).trans ((g2.2.1 91 0 (by decide)).trans (g1.2.1 91 0 (by decide))))) _).trans ((p2 j hj).2)) (by omega) ?_
  refine jr_iret rfl rfl (Nat.zero_le _) (Nat.zero_le _) ?_
  rw [if_pos k4, j4]
  refine jr_cv1 (mc' := 0) (ms' := 0) rfl jm_MD_told_n jm_MD_told_f rfl rfl rfl rfl rfl rfl rfl (Nat.zero_le _) (Nat.zero_le _) ?_
  refine eM_told_y (j := b) (B := B) (sz := sz) (t := t + 4) t4 m4 f4 k4 (by omega) ?_
  refine jr_iast (len := 24) rfl rfl rfl (by omega) ?_
  refine jr_aload rfl rfl ?_
  refine jr_cv0 (mc' := 0) (ms' := 0) rfl jm_MD_isGood_n jm_MD_isGood_f rfl rfl rfl rfl rfl rfl rfl (Nat.zero_le _) (Nat.zero_le _) ?_
  show jx_W (jm_MD_isGood, _, _, _, _, _, _) _ 0 0 0 [some _] [] _
  refine jr_aload rfl rfl ?_
  refine jr_getI rfl rfl ?_
  refine jr_if_ne rfl (fun z => absurd f4 z) (fun _ => ?_)
  refine jr_ic rfl ?_
  refine jr_goto rfl ?_
  refine jr_zret rfl rfl rfl (Nat.zero_le _) (Nat.zero_le _) ?_
  refine jr_if_eq rfl (fun z => absurd z (by decide)) (fun _ => ?_)
  refine jr_aload rfl rfl ?_
  refine jr_getR rfl rfl rfl rfl (Or.inl rfl) ?_
  refine jr_iload rfl rfl ?_
  refine jr_iald (len := 24) rfl rfl rfl (by omega) ?_
  rw [jg_Iuu]
  refine jr_aload rfl rfl ?_
  refine jr_getR rfl rfl rfl rfl (Or.inl rfl) ?_
  refine jr_iload rfl rfl ?_
  refine jr_iald (len := 24) rfl rfl rfl (by omega) ?_
  rw [show jh_I (ju_I (h4) 74 0 (upd (jh_I (h4) 74 0) ((12 * β + V 0 2)) (nI b))) 73 0 (12 * β + V 0 2) = nI a from (congrFun ((g4.1 73 0 (by decide)).trans ((g3.1 73 0 (by decide)).trans (congrArg (fun F => upd F ((12 * β + V 0 2)) (nI a)) ((g2.1 73 0 (by decide)).trans (g1.1 73 0 (by decide)))))) (12 * β + V 0 2)).trans (jg_us _ _ _)]
  refine jr_icmp_ne rfl (fun z => absurd (congrArg nI i4) z) (fun _ => ?_)
  refine jr_aload rfl rfl ?_
  refine jr_ic rfl ?_
  refine jr_aload rfl rfl ?_
  refine jr_getI rfl rfl ?_
  refine jr_cv2 (mc' := 0) (ms' := 0) rfl jm_MD_fails_n jm_MD_fails_f rfl rfl rfl rfl rfl rfl rfl (Nat.zero_le _) (Nat.zero_le _) ?_
  show jx_W (jm_MD_fails, _, _, _, _, _, _) _ 0 0 0 [some _, some _, some _] [] _
  refine jr_aload rfl rfl ?_
  refine jr_getI rfl rfl ?_
  refine jr_if_le rfl (fun _ => ?_) (fun z => absurd (jn_le0 f4) z)
  refine jr_aload rfl rfl ?_
  refine jr_iload rfl rfl ?_
  refine jr_putI rfl rfl ?_
  refine jr_aload rfl rfl ?_
  refine jr_iload rfl rfl ?_
  refine jr_putI rfl rfl ?_
  refine jr_vret rfl rfl (Nat.zero_le _) (Nat.zero_le _) ?_
  have g5 : jX_ft (ju_I (h4) 74 0 (upd (jh_I (h4) 74 0) ((12 * β + V 0 2)) (nI b))) (ju_I (ju_I (ju_I (h4) 74 0 (upd (jh_I (h4) 74 0) ((12 * β + V 0 2)) (nI b))) 11 0 (upd (jh_I (ju_I (h4) 74 0 (upd (jh_I (h4) 74 0) ((12 * β + V 0 2)) (nI b))) 11 0) 4 3)) 11 0 (upd (upd (jh_I (ju_I (h4) 74 0 (upd (jh_I (h4) 74 0) ((12 * β + V 0 2)) (nI b))) 11 0) 4 3) 5 (jh_I (ju_I (h4) 74 0 (upd (jh_I (h4) 74 0) ((12 * β + V 0 2)) (nI b))) 11 0 6))) 3 (jT_p B sz (t + 4)) := ⟨fun a b z => (if_neg (fun y => z y.1)).trans (if_neg (fun y => z y.1)), rfl, fun f z1 z2 => (jg_un z2).trans (jg_un z1), (jg_un (by decide) : upd (upd (jh_I (ju_I (h4) 74 0 (upd (jh_I (h4) 74 0) ((12 * β + V 0 2)) (nI b))) 11 0) 4 3) 5 (jh_I (ju_I (h4) 74 0 (upd (jh_I (h4) 74 0) ((12 * β + V 0 2)) (nI b))) 11 0 6) 4 = _).trans (jg_us _ _ _), ⟨(jg_us (upd (jh_I (ju_I (h4) 74 0 (upd (jh_I (h4) 74 0) ((12 * β + V 0 2)) (nI b))) 11 0) 4 3) 5 (jh_I (ju_I (h4) 74 0 (upd (jh_I (h4) 74 0) ((12 * β + V 0 2)) (nI b))) 11 0 6)).trans m4.1, (jg_un (by decide) : upd (upd (jh_I (ju_I (h4) 74 0 (upd (jh_I (h4) 74 0) ((12 * β + V 0 2)) (nI b))) 11 0) 4 3) 5 (jh_I (ju_I (h4) 74 0 (upd (jh_I (h4) 74 0) ((12 * β + V 0 2)) (nI b))) 11 0 6) 6 = _).trans ((jg_un (by decide)).trans m4.1)⟩⟩
  show jx_W _ _ _ _ _ _ _ (ju_I (ju_I (ju_I (h4) 74 0 (upd (jh_I (h4) 74 0) ((12 * β + V 0 2)) (nI b))) 11 0 (upd (jh_I (ju_I (h4) 74 0 (upd (jh_I (h4) 74 0) ((12 * β + V 0 2)) (nI b))) 11 0) 4 3)) 11 0 (upd (upd (jh_I (ju_I (h4) 74 0 (upd (jh_I (h4) 74 0) ((12 * β + V 0 2)) (nI b))) 11 0) 4 3) 5 (jh_I (ju_I (h4) 74 0 (upd (jh_I (h4) 74 0) ((12 * β + V 0 2)) (nI b))) 11 0 6)))
  generalize ju_I (ju_I (ju_I (h4) 74 0 (upd (jh_I (h4) 74 0) ((12 * β + V 0 2)) (nI b))) 11 0 (upd (jh_I (ju_I (h4) 74 0 (upd (jh_I (h4) 74 0) ((12 * β + V 0 2)) (nI b))) 11 0) 4 3)) 11 0 (upd (upd (jh_I (ju_I (h4) 74 0 (upd (jh_I (h4) 74 0) ((12 * β + V 0 2)) (nI b))) 11 0) 4 3) 5 (jh_I (ju_I (h4) 74 0 (upd (jh_I (h4) 74 0) ((12 * β + V 0 2)) (nI b))) 11 0 6)) = h5 at g5 ⊢
  have e5 : ¬ jh_I h5 11 0 4 = 0 := by rw [g5.2.2.2.1]; exact (by decide)
  have m5 := jT_mc_ft g5 m4
  have b5 : jh_I h5 11 0 44 = nI β := (g5.2.2.1 44 (by decide) (by decide)).trans b4
  refine jr_aload rfl rfl ?_
  refine jr_cv0 (mc' := 0) (ms' := 0) rfl jm_MD_isGood_n jm_MD_isGood_f rfl rfl rfl rfl rfl rfl rfl (Nat.zero_le _) (Nat.zero_le _) ?_
  show jx_W (jm_MD_isGood, _, _, _, _, _, _) _ 0 0 0 [some _] [] _
  refine jr_aload rfl rfl ?_
  refine jr_getI rfl rfl ?_
  refine jr_if_ne rfl (fun _ => ?_) (fun z => absurd z e5)
  refine jr_ic rfl ?_
  refine jr_zret rfl rfl rfl (Nat.zero_le _) (Nat.zero_le _) ?_
  refine jr_if_eq rfl (fun _ => ?_) (fun z => absurd (by decide) z)
  refine jr_aload rfl rfl ?_
  refine jr_getR rfl rfl rfl rfl (Or.inl rfl) ?_
  refine jr_iload rfl rfl ?_
  refine jr_aload rfl rfl ?_
  refine jr_lc rfl ?_
  refine jr_ic rfl ?_
  refine jr_ic rfl ?_
  refine jr_cv3 (mc' := 0) (ms' := 0) rfl jm_MD_after_n jm_MD_after_f rfl rfl rfl rfl rfl rfl rfl (Nat.zero_le _) (Nat.zero_le _) ?_
  show jx_W (jm_MD_after, _, _, _, _, _, _) _ 0 0 0 [some _, some _, none, some _, some _] [] _
  refine jr_aload rfl rfl ?_
  refine jr_aload rfl rfl ?_
  refine jr_lload rfl rfl ?_
  refine jr_cv1 (mc' := 0) (ms' := 0) rfl jm_MD_isWord_n jm_MD_isWord_f rfl rfl rfl rfl rfl rfl rfl (Nat.zero_le _) (Nat.zero_le _) ?_
  refine eM_isWord (B := B) (sz := sz) (t := t + 4) m5 (i := 14) (by decide) jT_W14 ?_
  refine jr_cv1 (mc' := 0) (ms' := 0) rfl jm_MD_must_n jm_MD_must_f rfl rfl rfl rfl rfl rfl rfl (Nat.zero_le _) (Nat.zero_le _) ?_
  refine eM_must_b e5 ?_
  refine jr_aload rfl rfl ?_
  refine jr_iload rfl rfl ?_
  refine jr_iload rfl rfl ?_
  refine jr_cv2 (mc' := 0) (ms' := 0) rfl jm_MD_numeral_n jm_MD_numeral_f rfl rfl rfl rfl rfl rfl rfl (Nat.zero_le _) (Nat.zero_le _) ?_
  refine eM_num_b (lo := 1) (hi := 99) e5 ?_
  refine jr_iret rfl rfl (Nat.zero_le _) (Nat.zero_le _) ?_
  refine jr_iast (len := 24) rfl rfl rfl (by omega) ?_
  refine jr_aload rfl rfl ?_
  refine jr_getR rfl rfl rfl rfl (Or.inl rfl) ?_
  refine jr_iload rfl rfl ?_
  refine jr_aload rfl rfl ?_
  refine jr_lc rfl ?_
  refine jr_ic rfl ?_
  refine jr_ic rfl ?_
  refine jr_cv3 (mc' := 0) (ms' := 0) rfl jm_MD_after_n jm_MD_after_f rfl rfl rfl rfl rfl rfl rfl (Nat.zero_le _) (Nat.zero_le _) ?_
  show jx_W (jm_MD_after, _, _, _, _, _, _) _ 0 0 0 [some _, some _, none, some _, some _] [] _
  refine jr_aload rfl rfl ?_
  refine jr_aload rfl rfl ?_
  refine jr_lload rfl rfl ?_
  refine jr_cv1 (mc' := 0) (ms' := 0) rfl jm_MD_isWord_n jm_MD_isWord_f rfl rfl rfl rfl rfl rfl rfl (Nat.zero_le _) (Nat.zero_le _) ?_
  refine eM_isWord (B := B) (sz := sz) (t := t + 4) m5 (i := 15) (by decide) jT_W15 ?_
  refine jr_cv1 (mc' := 0) (ms' := 0) rfl jm_MD_must_n jm_MD_must_f rfl rfl rfl rfl rfl rfl rfl (Nat.zero_le _) (Nat.zero_le _) ?_
  refine eM_must_b e5 ?_
  refine jr_aload rfl rfl ?_
  refine jr_iload rfl rfl ?_
  refine jr_iload rfl rfl ?_
  refine jr_cv2 (mc' := 0) (ms' := 0) rfl jm_MD_numeral_n jm_MD_numeral_f rfl rfl rfl rfl rfl rfl rfl (Nat.zero_le _) (Nat.zero_le _) ?_
  refine eM_num_b (lo := 1) (hi := 31) e5 ?_
  refine jr_iret rfl rfl (Nat.zero_le _) (Nat.zero_le _) ?_
  refine jr_iast (len := 24) rfl rfl rfl (by omega) ?_
  refine jr_aload rfl rfl ?_
  refine jr_aload rfl rfl ?_
  refine jr_lc rfl ?_
  refine jr_cv1 (mc' := 0) (ms' := 0) rfl jm_MD_isWord_n jm_MD_isWord_f rfl rfl rfl rfl rfl rfl rfl (Nat.zero_le _) (Nat.zero_le _) ?_
  refine eM_isWord (B := B) (sz := sz) (t := t + 4) m5 (i := 16) (by decide) jT_W16 ?_
  refine jr_cv1 (mc' := 0) (ms' := 0) rfl jm_MD_must_n jm_MD_must_f rfl rfl rfl rfl rfl rfl rfl (Nat.zero_le _) (Nat.zero_le _) ?_
  refine eM_must_b e5 ?_
  refine jr_aload rfl rfl ?_
  refine jr_getR rfl rfl rfl rfl (Or.inl rfl) ?_
  refine jr_iload rfl rfl ?_
  refine jr_aload rfl rfl ?_
  refine jr_aload rfl rfl ?_
  refine jr_aload rfl rfl ?_
  refine jr_getR rfl rfl rfl rfl (Or.inl rfl) ?_
  refine jr_ic rfl ?_
  refine jr_aload rfl rfl ?_
  refine jr_getI rfl rfl ?_
  refine jr_imul rfl ?_
  refine jr_aload rfl rfl ?_
  refine jr_getR rfl rfl rfl rfl (Or.inl rfl) ?_
  refine jr_aload rfl rfl ?_
  refine jr_getI rfl rfl ?_
  refine jr_iald (len := 2) rfl rfl b5 (by omega) ?_
  rw [show jh_I (ju_I (ju_I (h5) 75 0 (upd (jh_I (h5) 75 0) ((12 * β + V 0 2)) (nI 1))) 76 0 (upd (jh_I (ju_I (h5) 75 0 (upd (jh_I (h5) 75 0) ((12 * β + V 0 2)) (nI 1))) 76 0) ((12 * β + V 0 2)) (nI 1))) 11 0 44 = nI β from b5, show jh_I (ju_I (ju_I (h5) 75 0 (upd (jh_I (h5) 75 0) ((12 * β + V 0 2)) (nI 1))) 76 0 (upd (jh_I (ju_I (h5) 75 0 (upd (jh_I (h5) 75 0) ((12 * β + V 0 2)) (nI 1))) 76 0) ((12 * β + V 0 2)) (nI 1))) 66 0 β = nI (V 0 0) from (congrFun ((g5.1 66 0 (by decide)).trans ((g4.1 66 0 (by decide)).trans ((g3.1 66 0 (by decide)).trans ((g2.1 66 0 (by decide)).trans (g1.1 66 0 (by decide)))))) β).trans a1, show (6 : Int32) * nI β = nI (6 * β) from jn_mul rfl rfl]
  refine jr_cv3 (mc' := 0) (ms' := 0) rfl jm_MD_here_n jm_MD_here_f rfl rfl rfl rfl rfl rfl rfl (Nat.zero_le _) (Nat.zero_le _) ?_
  refine eM_here_m (B := B) (sz := sz) (t := t + 4) m5 hβ hWm (fun j hj => (congrFun ((congrFun (congrFun (congrArg (·.1) g5.2.1) 90) 0).trans ((g4.2.1 90 0 (by decide)).trans ((g3.2.1 90 0 (by decide)).trans ((g2.2.1 90 0 (by decide)).trans (g1.2.1 90 0 (by decide)))))) _).trans ((a2 j hj).2.2)) (by omega) ?_
  refine jr_cv1 (mc' := 0) (ms' := 0) rfl jm_MD_told_n jm_MD_told_f rfl rfl rfl rfl rfl rfl rfl (Nat.zero_le _) (Nat.zero_le _) ?_
  refine eM_told_b e5 ?_
  refine jr_iast (len := 24) rfl rfl rfl (by omega) ?_
  refine jr_aload rfl rfl ?_
  refine jr_cv0 (mc' := 0) (ms' := 0) rfl jm_MD_isGood_n jm_MD_isGood_f rfl rfl rfl rfl rfl rfl rfl (Nat.zero_le _) (Nat.zero_le _) ?_
  show jx_W (jm_MD_isGood, _, _, _, _, _, _) _ 0 0 0 [some _] [] _
  refine jr_aload rfl rfl ?_
  refine jr_getI rfl rfl ?_
  refine jr_if_ne rfl (fun _ => ?_) (fun z => absurd z e5)
  refine jr_ic rfl ?_
  refine jr_zret rfl rfl rfl (Nat.zero_le _) (Nat.zero_le _) ?_
  refine jr_if_eq rfl (fun _ => ?_) (fun z => absurd (by decide) z)
  refine jr_aload rfl rfl ?_
  refine jr_getR rfl rfl rfl rfl (Or.inl rfl) ?_
  refine jr_iload rfl rfl ?_
  refine jr_aload rfl rfl ?_
  refine jr_lc rfl ?_
  refine jr_cv1 (mc' := 0) (ms' := 0) rfl jm_MD_has_n jm_MD_has_f rfl rfl rfl rfl rfl rfl rfl (Nat.zero_le _) (Nat.zero_le _) ?_
  refine eM_has_b e5 ?_
  refine jr_zast (len := 24) rfl rfl rfl (by omega) ?_
  refine jr_aload rfl rfl ?_
  refine jr_getR rfl rfl rfl rfl (Or.inl rfl) ?_
  refine jr_aload rfl rfl ?_
  refine jr_getI rfl rfl ?_
  refine jr_dup2 rfl ?_
  refine jr_iald (len := 2) rfl rfl b5 (by omega) ?_
  refine jr_ic rfl ?_
  refine jr_iadd rfl ?_
  rw [show jh_I (ju_I (ju_I (ju_I (ju_I (h5) 75 0 (upd (jh_I (h5) 75 0) ((12 * β + V 0 2)) (nI 1))) 76 0 (upd (jh_I (ju_I (h5) 75 0 (upd (jh_I (h5) 75 0) ((12 * β + V 0 2)) (nI 1))) 76 0) ((12 * β + V 0 2)) (nI 1))) 77 0 (upd (jh_I (ju_I (ju_I (h5) 75 0 (upd (jh_I (h5) 75 0) ((12 * β + V 0 2)) (nI 1))) 76 0 (upd (jh_I (ju_I (h5) 75 0 (upd (jh_I (h5) 75 0) ((12 * β + V 0 2)) (nI 1))) 76 0) ((12 * β + V 0 2)) (nI 1))) 77 0) ((12 * β + V 0 2)) (0))) 84 0 (upd (jh_I (ju_I (ju_I (ju_I (h5) 75 0 (upd (jh_I (h5) 75 0) ((12 * β + V 0 2)) (nI 1))) 76 0 (upd (jh_I (ju_I (h5) 75 0 (upd (jh_I (h5) 75 0) ((12 * β + V 0 2)) (nI 1))) 76 0) ((12 * β + V 0 2)) (nI 1))) 77 0 (upd (jh_I (ju_I (ju_I (h5) 75 0 (upd (jh_I (h5) 75 0) ((12 * β + V 0 2)) (nI 1))) 76 0 (upd (jh_I (ju_I (h5) 75 0 (upd (jh_I (h5) 75 0) ((12 * β + V 0 2)) (nI 1))) 76 0) ((12 * β + V 0 2)) (nI 1))) 77 0) ((12 * β + V 0 2)) (0))) 84 0) ((12 * β + V 0 2)) (0 &&& 1))) 68 0 β = nI (V 0 2) from (congrFun ((g5.1 68 0 (by decide)).trans ((g4.1 68 0 (by decide)).trans ((g3.1 68 0 (by decide)).trans ((g2.1 68 0 (by decide)).trans (g1.1 68 0 (by decide)))))) β).trans c1, show nI (V 0 2) + 1 = nI (V 0 2 + 1) from jn_S _]
  refine jr_iast (len := 2) rfl rfl b5 (by omega) ?_
  refine jr_vret rfl rfl (Nat.zero_le _) (Nat.zero_le _) ?_
  exact k _ (jMF_I (a := 68) (w := 1) (jMF_I (a := 84) (w := 12) (jMF_I (a := 77) (w := 12) (jMF_I (a := 76) (w := 12) (jMF_I (a := 75) (w := 12) (jMF_ft (jMF_I (a := 74) (w := 12) (jMF_G (jMF_G (jMF_I (a := 73) (w := 12) (jMF_G (jMF_L (a := 92) (w := 12) (jMF_G (F) g1) (by decide) (by decide) (by omega) (by omega)) g2) (by decide) (by decide) (by omega) (by omega)) g3) g4) (by decide) (by decide) (by omega) (by omega)) g5) (by decide) (by decide) (by omega) (by omega)) (by decide) (by decide) (by omega) (by omega)) (by decide) (by decide) (by omega) (by omega)) (by decide) (by decide) (by omega) (by omega)) (by decide) (by decide) (by omega) (by omega)) g5.2.2.2.1 g5.2.2.2.2

