theorem jn_int {x : Int32} {n : Nat} (h : x.toInt = n) (hn : n < 2 ^ 31) : x = nI n := by
  apply Int32.toInt_inj.mp; rw [h, nI_toInt hn]
theorem jn_div {a b : Nat} (ha : a < 2 ^ 31) (hb : b < 2 ^ 31) : nI a / nI b = nI (a / b) := by
  have hq : a / b ≤ a := Nat.div_le_self a b
  refine jn_int ?_ (by omega)
  rw [Int32.toInt_div, nI_toInt ha, nI_toInt hb]
  rw [show (a : Int).tdiv (b : Int) = ((a / b : Nat) : Int) by rw [Int.ofNat_tdiv]]
  generalize a / b = q at hq ⊢
  apply Int.bmod_eq_of_le <;> omega
theorem jn_rem {a b : Nat} (ha : a < 2 ^ 31) (hb : b < 2 ^ 31) (h0 : 0 < b) : jw_rem (nI a) (nI b) = nI (a % b) := by
  have hq : a % b ≤ a := Nat.mod_le a b
  refine jn_int ?_ (by omega)
  rw [jw_rem_toInt (nI_ne0 h0 hb), nI_toInt ha, nI_toInt hb, Int.ofNat_tmod]
theorem jn_1 {x : Int32} {n : Nat} (h : x = nI n) (hn : n < 2 ^ 31) : x.toNatClampNeg = n := by rw [h, nI_clamp hn]
theorem jn_lt {a b : Nat} (h : nI a < nI b) (ha : a < 2 ^ 31) (hb : b < 2 ^ 31) : a < b := (nI_ltI ha hb).mp h
theorem jn_nlt {a b : Nat} (h : ¬ nI a < nI b) (ha : a < 2 ^ 31) (hb : b < 2 ^ 31) : b ≤ a := by
  exact Nat.le_of_not_lt (fun z => h ((nI_ltI ha hb).mpr z))
theorem jn_le {a b : Nat} (h : nI a ≤ nI b) (ha : a < 2 ^ 31) (hb : b < 2 ^ 31) : a ≤ b := (nI_leI ha hb).mp h
theorem jn_nle {a b : Nat} (h : ¬ nI a ≤ nI b) (ha : a < 2 ^ 31) (hb : b < 2 ^ 31) : b < a := by
  exact Nat.lt_of_not_le (fun z => h ((nI_leI ha hb).mpr z))
theorem jn_eq {a b : Nat} (h : nI a = nI b) (ha : a < 2 ^ 31) (hb : b < 2 ^ 31) : a = b := (nI_eq ha hb).mp h
theorem jS_98 (h : jx_H) (S : Nat → Nat → Int32) (a f : Nat → Int32) : ju_I (jS (ju_I h 98 0 a) S) 98 0 f = jS (ju_I h 98 0 f) S := by
  unfold ju_I jS
  refine congrArg (·, h.2) ?_
  funext x y
  dsimp only
  by_cases e : x = 98 ∧ y = 0
  · rw [if_pos e, if_neg (fun z => absurd (show jk_s 98 = true from e.1 ▸ z.1) (by decide)), if_pos e]
  · rw [if_neg e, if_neg e, if_neg e]
theorem jS_98' (h : jx_H) (S : Nat → Nat → Int32) (f : Nat → Int32) : ju_I (jS h S) 98 0 f = jS (ju_I h 98 0 f) S := by
  have := jS_98 h S (jh_I h 98 0) f
  rw [jg_self] at this
  exact this
abbrev jz_nm (h : jx_H) (b : Nat) : Nat := (jh_I h 66 0 b).toNatClampNeg
abbrev jz_np (h : jx_H) (b : Nat) : Nat := (jh_I h 67 0 b).toNatClampNeg
abbrev jz_nd (h : jx_H) (b : Nat) : Nat := (jh_I h 68 0 b).toNatClampNeg
/-- a good republic in bank b -/
def jz_due (C : jw_C) (nm np d : Nat) : Prop := ∃ x y z u m : Nat, C 6 d = nI x ∧ C 7 d = nI y ∧ C 8 d = nI z ∧ C 9 d = nI u ∧ C 10 d = nI m ∧ x < np ∧ y < np ∧ x ≠ y ∧ 1 ≤ z ∧ z ≤ 99 ∧ 1 ≤ u ∧ u ≤ 31 ∧ m < nm ∧ (C 11 d = 0 ∨ C 11 d = 1)
def jz_R (h : jx_H) (b : Nat) : Prop :=
  (jh_I h 66 0 b = nI (jz_nm h b) ∧ jz_nm h b ≤ 6) ∧ (jh_I h 67 0 b = nI (jz_np h b) ∧ jz_np h b ≤ 5) ∧ (jh_I h 68 0 b = nI (jz_nd h b) ∧ jz_nd h b ≤ 12) ∧
  (∀ j, j < jz_nm h b → ∃ f t : Nat, jC h b 3 j = nI f ∧ jC h b 4 j = nI t ∧ f ≤ t ∧ t ≤ 31) ∧
  (∀ d, d < jz_nd h b → jz_due (jC h b) (jz_nm h b) (jz_np h b) d) ∧
  (jC h b 12 0 = 0 ∨ jC h b 12 0 = 1 ∧ ∃ u v : Nat, jC h b 13 0 = nI u ∧ jC h b 14 0 = nI v ∧ u ≤ 18512 ∧ 1 ≤ v ∧ v ≤ 99) ∧
  (jC h b 15 0 = 0 ∨ jC h b 15 0 = 1 ∨ jC h b 15 0 = 2) ∧ (∃ w : Nat, jC h b 16 0 = nI w ∧ 1 ≤ w ∧ w ≤ 9) ∧ (jC h b 17 0 = 0 ∨ jC h b 17 0 = 1) ∧
  (∀ r, r < 6 → jC h b 18 r = 0 ∨ jC h b 18 r = 1 ∧ jw_good h b r) ∧ (∀ r, jz_np h b ≤ r → r < 5 → jC h b 18 r = 0) ∧ (∃ u : Nat, jh_I h 69 0 b = nI u ∧ u ≤ 90 ∧ ∀ r, r < 6 → jC h b 18 r = 0 ∨ 620 * b ≤ jw_rk h b r ∧ jw_rk h b r + jw_rn h b r ≤ 620 * b + 620) ∧
  (∀ p, p < jz_np h b → ∃ v : Nat, jC h b 5 p = nI v ∧ v ≤ 9)
/-- a good calendar -/
def jz_A (np nm : Nat) (a : jw_A) : Prop :=
  (∃ w t : Nat, a 0 = nI w ∧ a 1 = nI t ∧ w ≤ 511 ∧ t ≤ 31 * w ∧ (nm = 0 → w = 0)) ∧ (∀ p, p < np → ∃ v : Nat, a (7 + p) = nI v ∧ v ≤ 9)
def jz_W (h : jx_H) (b : Nat) : Prop := jh_I h 11 0 43 = nI b ∧ b < 2 ∧ jz_R h b ∧ jz_A (jz_np h b) (jz_nm h b) (jA h)
abbrev jz_S (h : jx_H) (S : Nat → Nat → Int32) : Prop := ∀ f, f < 49 ∨ 53 < f → S 11 f = jh_I h 11 0 f
theorem jz_bank {h : jx_H} {b : Nat} {S : Nat → Nat → Int32} (hw : jz_W h b) (hS : jz_S h S) : S 11 43 = nI b := (hS 43 (by decide)).trans hw.1
theorem jz_mo {h : jx_H} {b : Nat} (hw : jz_W h b) (hm : ¬ jC h b 0 0 = 0) : ∃ m : Nat, jw_month (jC h b) (jA h) = nI m ∧ m < jz_nm h b := by
  obtain ⟨-, -, ⟨⟨h1, h2⟩, -⟩, ⟨w, t, h3, -, h4, -⟩, -⟩ := hw
  have h0 : 0 < jz_nm h b := by
    rcases Nat.eq_zero_or_pos (jz_nm h b) with e | e
    · rw [e] at h1; exact absurd h1 hm
    · exact e
  refine ⟨w % jz_nm h b, ?_, Nat.mod_lt _ h0⟩
  unfold jw_month
  rw [show jC h b 0 0 = nI (jz_nm h b) from h1, show jA h 0 = nI w from h3]
  exact jn_rem (by omega) (by omega) h0
theorem jz_dl {h : jx_H} {b : Nat} (hw : jz_W h b) (hm : ¬ jC h b 0 0 = 0) : ∃ L : Nat, jw_dL (jC h b) = nI L ∧ 1 ≤ L ∧ L ≤ 594 := by
  obtain ⟨-, -, ⟨⟨h1, h2⟩, -, -, -, -, h5, -⟩, -⟩ := hw
  have h0 : 0 < jz_nm h b := by
    rcases Nat.eq_zero_or_pos (jz_nm h b) with e | e
    · rw [e] at h1; exact absurd h1 hm
    · exact e
  unfold jw_dL jw_sunL
  rw [show jC h b 0 0 = nI (jz_nm h b) from h1]
  rcases h5 with e | ⟨e, u, v, -, hv, -, hv1, hv2⟩
  · rw [if_pos e, show (1 : Int32) = nI 1 from rfl, pk_mul]
    exact ⟨_, rfl, by omega, by omega⟩
  · rw [if_neg (by rw [e]; decide), hv, pk_mul]
    have : v * jz_nm h b ≤ 99 * 6 := Nat.mul_le_mul hv2 h2
    have : 1 * 1 ≤ v * jz_nm h b := Nat.mul_le_mul hv1 h0
    exact ⟨_, rfl, by omega, by omega⟩
theorem jz_dln {h : jx_H} {b : Nat} (hw : jz_W h b) (hm : ¬ jC h b 0 0 = 0) : ¬ jw_dL (jC h b) = 0 := by
  obtain ⟨L, e, h1, h2⟩ := jz_dl hw hm
  rw [e]; exact nI_ne0 h1 (by omega)
theorem jz_good {h : jx_H} {b r : Nat} (hw : jz_W h b) (hr : r < 6) : ¬ jC h b 18 r = 0 → jw_good h b r := by
  obtain ⟨-, -, ⟨-, -, -, -, -, -, -, -, -, h1, -⟩, -⟩ := hw
  intro hn
  rcases h1 r hr with e | ⟨-, e⟩
  · exact absurd e hn
  · exact e
/-- bounds of the coming month -/
theorem jz_ft {h : jx_H} {b m : Nat} (hw : jz_W h b) (hm : m < jz_nm h b) : ∃ f t : Nat, jC h b 3 m = nI f ∧ jC h b 4 m = nI t ∧ f ≤ t ∧ t ≤ 31 := hw.2.2.1.2.2.2.1 m hm
/-- what may be, in the coming month -/
def jw_mayb (h : jx_H) (b : Nat) : Nat → Int32 := jw_may (jC h b 3 (jw_month (jC h b) (jA h)).toNatClampNeg) (jC h b 4 (jw_month (jC h b) (jA h)).toNatClampNeg) (jC h b 18 5) (jw_law h b)
theorem jw_mayb_eq {h : jx_H} {b m f t : Nat} (hm : jw_month (jC h b) (jA h) = nI m) (hm6 : m < 6) (hf : jC h b 3 m = nI f) (ht : jC h b 4 m = nI t) : jw_mayb h b = jw_may (nI f) (nI t) (jC h b 18 5) (jw_law h b) := by
  unfold jw_mayb
  rw [hm, nI_clamp (by omega), hf, ht]
theorem jw_some_n {M : Nat → Int32} : ∀ {n : Nat}, ¬ jw_some M n = 0 → ∃ j, j < n ∧ ¬ M j = 0
  | 0, h => absurd rfl h
  | n + 1, h => by
    rw [jw_some_s] at h
    by_cases e : jw_some M n = 0
    · rw [if_pos e] at h
      by_cases e2 : M n = 0
      · rw [if_pos e2] at h; exact absurd rfl h
      · exact ⟨n, by omega, e2⟩
    · obtain ⟨j, hj, hm⟩ := jw_some_n e
      exact ⟨j, by omega, hm⟩
theorem jw_may_ex {f t : Nat} {has : Int32} {P : Nat → Int32} (hft : f ≤ t) (ht : t ≤ 31) : ∃ j, j < 32 ∧ ¬ jw_may (nI f) (nI t) has P j = 0 := by
  by_cases e : jw_some (jw_m0 (nI f) (nI t) has P) 32 = 0
  · refine ⟨f, by omega, ?_⟩
    rw [jw_may_in ⟨nI_le (Nat.le_refl _) (by omega), nI_le hft (by omega)⟩, if_pos e]
    decide
  · obtain ⟨j, hj, hm⟩ := jw_some_n e
    refine ⟨j, hj, ?_⟩
    have hin : nI f ≤ nI j ∧ nI j ≤ nI t := by
      refine Decidable.byContradiction (fun hc => hm ?_)
      unfold jw_m0; rw [if_neg hc]
    rw [jw_may_in hin, if_neg e]
    exact hm
theorem jw_mayb_ex {h : jx_H} {b : Nat} (hw : jz_W h b) (hm : ¬ jC h b 0 0 = 0) : ∃ j, j < 32 ∧ ¬ jw_mayb h b j = 0 := by
  obtain ⟨m, h1, h2⟩ := jz_mo hw hm
  obtain ⟨f, t, h3, h4, h5, h6⟩ := jz_ft hw h2
  rw [jw_mayb_eq h1 (by have := hw.2.2.1.1.2; omega) h3 h4]
  exact jw_may_ex h5 h6
set_option maxHeartbeats 4000000 in
set_option maxRecDepth 100000 in
theorem eS_layMay {d : Nat} {h : jx_H} {Q : Option jx_V → jx_H → Prop} {b : Nat} {S : Nat → Nat → Int32} (hw : jz_W h b) (hS : jz_S h S) (hmo : ¬ jC h b 0 0 = 0)
  (k : ∀ S' : Nat → Nat → Int32, jz_S h S' → (∀ a, a ≠ 11 → a ≠ 97 → a ≠ 100 → S' a = S a) → (∀ j, j < 32 → S' 100 j = jw_mayb h b j) → Q none (jS h S')) : jx_Ev jm_MD_layMay (d + 4) 0 0 false 1 [jv_r 11 0] (jS h S) Q := by
  show jx_W (jm_MD_layMay, d + 4, 0, 0, false, 1, _) Q 0 0 0 [some (jv_r 11 0), none, none, none, none] [] _
  have hb2 := hw.2.1
  obtain ⟨m, hm1, hm2⟩ := jz_mo hw hmo
  have hm6 : m < 6 := by have := hw.2.2.1.1.2; omega
  obtain ⟨f, t, hf, ht, hft, ht31⟩ := jz_ft hw hm2
  have hmb := jw_mayb_eq hm1 hm6 hf ht
  refine jr_aload rfl rfl ?_
  refine jr_getR rfl rfl rfl rfl (Or.inl rfl) ?_
  refine jr_ic rfl ?_
  refine jr_aload rfl rfl ?_
  refine jr_getI rfl rfl ?_
  refine jr_imul rfl ?_
  refine jr_aload rfl rfl ?_
  refine jr_cv0 (mc' := 0) (ms' := 0) rfl jm_MD_month_n jm_MD_month_f rfl rfl rfl rfl rfl rfl rfl (Nat.zero_le _) (Nat.zero_le _) ?_
  refine ev_MD_month (b := b) (jz_bank hw hS) hb2 hmo ?_
  rw [show jw_month (jC (jS h S) b) (jA (jS h S)) = nI m from hm1]
  refine jr_iadd rfl ?_
  refine jr_iald (len := 12) rfl rfl (jn_add (jn_mul (show _ = nI 6 from rfl) (jz_bank hw hS)) rfl) (by omega) ?_
  refine jr_ist1 rfl rfl ?_
  refine jr_aload rfl rfl ?_
  refine jr_getR rfl rfl rfl rfl (Or.inl rfl) ?_
  refine jr_ic rfl ?_
  refine jr_aload rfl rfl ?_
  refine jr_getI rfl rfl ?_
  refine jr_imul rfl ?_
  refine jr_aload rfl rfl ?_
  refine jr_cv0 (mc' := 0) (ms' := 0) rfl jm_MD_month_n jm_MD_month_f rfl rfl rfl rfl rfl rfl rfl (Nat.zero_le _) (Nat.zero_le _) ?_
  refine ev_MD_month (b := b) (jz_bank hw hS) hb2 hmo ?_
  rw [show jw_month (jC (jS h S) b) (jA (jS h S)) = nI m from hm1]
  refine jr_iadd rfl ?_
  refine jr_iald (len := 12) rfl rfl (jn_add (jn_mul (show _ = nI 6 from rfl) (jz_bank hw hS)) rfl) (by omega) ?_
  refine jr_ist2 rfl rfl ?_
  refine jr_ic rfl ?_
  refine jr_ist3 rfl rfl ?_
  refine jr_ic rfl ?_
  refine jr_ist4 rfl rfl ?_
  rw [show jh_I (jS h S) 70 0 (6 * b + m) = nI f from hf, show jh_I (jS h S) 71 0 (6 * b + m) = nI t from ht]
  refine lp_MD_layMay (b := b) 0 hb2 (jz_dln hw hmo) hmo (jz_good hw (by decide)) ht31 (Nat.zero_le _) (jz_bank hw hS) hS (fun _ _ _ _ => rfl) (fun j hj => absurd hj (by omega)) rfl ?_
  intro S1 hb1 hS1 hf1 hM1
  refine jr_iload rfl rfl ?_
  refine jr_ist4 rfl rfl ?_
  refine lp_MD_layMay2 (b := b) f ht31 (Nat.le_refl _) (by omega) hS1 hf1 (fun j hj => ?_) (fun S2 hS2 hf2 hM2 => k S2 hS2 hf2 (fun j hj => (hM2 j hj).trans (by rw [hmb])))
  rw [hM1 j hj]
  by_cases e : j < f
  · rw [if_pos e]
    exact (jw_may_out (fun z => nI_ge e (by omega) z.1)).symm
  · rw [if_neg e]

theorem eS_worthOf {d : Nat} {h : jx_H} {Q : Option jx_V → jx_H → Prop} {b p : Nat} {l : Int32} {S : Nat → Nat → Int32} (hw : jz_W h b) (hS : jz_S h S) (hmo : ¬ jC h b 0 0 = 0) (hp : p < 5)
  (k : ∀ S' : Nat → Nat → Int32, jz_S h S' → (∀ a, a ≠ 11 → a ≠ 97 → S' a = S a) → Q (some (jv_i (jw_worth h b p l (jz_nd h b)))) (jS h S')) : jx_Ev jm_MD_worthOf (d + 4) 0 0 false 1 [jv_r 11 0, jv_i (nI p), jv_i l] (jS h S) Q := by
  have hdl := jz_dln hw hmo
  have hgd := jz_good hw (show p < 6 by omega)
  refine ev_MD_worthOf (b := b) (nd := jz_nd h b) (jz_bank hw hS) hw.2.1 hp hdl hmo hw.2.2.1.2.2.1.1 hw.2.2.1.2.2.1.2 hgd (fun F G hF => ?_)
  rw [jS_11, jS_97]
  refine k _ (fun f hf => ?_) (fun a h1 h2 => ?_)
  · show F f = _
    exact (hF f hf).trans (hS f hf)
  · show (if a = 97 then G else if a = 11 then F else S a) = S a
    rw [if_neg h2, if_neg h1]
theorem jw_best_congr {W M M' : Nat → Int32} : ∀ {n l : Nat} {best most : Int32}, (∀ j, l ≤ j → j < l + n → M j = M' j) → jw_best W M n l best most = jw_best W M' n l best most
  | 0, _, _, _, _ => rfl
  | n + 1, l, best, most, h => by
    have e := h l (Nat.le_refl _) (by omega)
    have ih := fun b m => jw_best_congr (W := W) (M := M) (M' := M') (n := n) (l := l + 1) (best := b) (most := m) (fun j h1 h2 => h j (by omega) (by omega))
    simp only [jw_best, e, ih]
def jw_voteb (h : jx_H) (b p : Nat) : Int32 := jw_best (fun l => jw_worth h b p (nI l) (jz_nd h b)) (jw_mayb h b) 32 0 (-1) 0
theorem eS_voteOf {d : Nat} {h : jx_H} {Q : Option jx_V → jx_H → Prop} {b p : Nat} {S : Nat → Nat → Int32} (hw : jz_W h b) (hS : jz_S h S) (hmo : ¬ jC h b 0 0 = 0) (hp : p < 5) (hM : ∀ j, j < 32 → S 100 j = jw_mayb h b j)
  (k : ∀ S' : Nat → Nat → Int32, jz_S h S' → (∀ a, a ≠ 11 → a ≠ 97 → S' a = S a) → Q (some (jv_i (jw_voteb h b p))) (jS h S')) : jx_Ev jm_MD_voteOf (d + 5) 0 0 false 1 [jv_r 11 0, jv_i (nI p)] (jS h S) Q := by
  have hdl := jz_dln hw hmo
  have hgd := jz_good hw (show p < 6 by omega)
  refine ev_MD_voteOf (b := b) (nd := jz_nd h b) (jz_bank hw hS) hw.2.1 hp hdl hmo hw.2.2.1.2.2.1.1 hw.2.2.1.2.2.1.2 hgd (fun F G hF => ?_)
  rw [jS_11, jS_97]
  have e : jw_vote (jS h S) b p (jz_nd h b) = jw_voteb h b p := jw_best_congr (fun j _ hj => hM j (by omega))
  rw [e]
  refine k _ (fun f hf => ?_) (fun a h1 h2 => ?_)
  · show F f = _
    exact (hF f hf).trans (hS f hf)
  · show (if a = 97 then G else if a = 11 then F else S a) = S a
    rw [if_neg h2, if_neg h1]
theorem jw_best_in {W M : Nat → Int32} : ∀ {n l : Nat} {best most : Int32}, l + n ≤ 32 → ((best = -1 ∧ ∃ j, l ≤ j ∧ j < l + n ∧ ¬ M j = 0) ∨ (∃ v, best = nI v ∧ v < 32 ∧ ¬ M v = 0)) → ∃ v, jw_best W M n l best most = nI v ∧ v < 32 ∧ ¬ M v = 0
  | 0, l, best, most, _, h => by
    rcases h with ⟨-, j, h1, h2, -⟩ | ⟨v, h1, h2, h3⟩
    · omega
    · exact ⟨v, h1, h2, h3⟩
  | n + 1, l, best, most, hl, h => by
    rw [jw_best]
    by_cases e : M l = 0
    · rw [if_pos e]
      refine jw_best_in (by omega) ?_
      rcases h with ⟨h0, j, h1, h2, h3⟩ | h
      · refine Or.inl ⟨h0, j, ?_, by omega, h3⟩
        rcases Nat.eq_or_lt_of_le h1 with e2 | e2
        · rw [e2] at e; exact absurd e h3
        · omega
      · exact Or.inr h
    · rw [if_neg e]
      split
      · exact jw_best_in (by omega) (Or.inr ⟨l, rfl, by omega, e⟩)
      · split
        · exact jw_best_in (by omega) (Or.inr ⟨l, rfl, by omega, e⟩)
        · rename_i h1 h2
          refine jw_best_in (by omega) (Or.inr ?_)
          rcases h with ⟨h0, -⟩ | h
          · exact absurd (show best < 0 by rw [h0]; decide) h1
          · exact h
theorem jw_voteb_in {h : jx_H} {b p : Nat} (hw : jz_W h b) (hm : ¬ jC h b 0 0 = 0) : ∃ v, jw_voteb h b p = nI v ∧ v < 32 ∧ ¬ jw_mayb h b v = 0 := by
  obtain ⟨j, h1, h2⟩ := jw_mayb_ex hw hm
  exact jw_best_in (Nat.le_refl _) (Or.inl ⟨rfl, j, Nat.zero_le _, by omega, h2⟩)
