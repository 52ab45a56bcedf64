theorem jT_next {B : Nat → Int32} {sz T t : Nat} {h : jx_H} (ha : jT_al h B sz T) (ht : t ≤ T) (hK : jT_K B sz t ≠ 0) : t + 1 ≤ T := by
  rcases Nat.lt_or_ge t T with e | e
  · exact e
  · have : t = T := by omega
    subst this
    exact absurd (if_pos ha.2.2.2.1) hK
/-- the class, within a formula -/
def jZ (h : jx_H) (B : Nat → Int32) (sz T ρ t u v c : Nat) : Prop := jT_al h B sz T ∧ jT_cur h B sz t ∧ t ≤ T ∧ jh_M h 6 0 4 = ρ + 1 ∧ jh_I h 7 ρ 12 = nI u ∧ jh_I h 6 0 6 = nI v ∧ jh_I h 7 ρ 15 = nI c ∧ (jh_I h 7 ρ 13 = 0 ∧ (∀ q, q < c → jh_I h 25 ρ q ≠ -102 ∧ jh_I h 25 ρ q ≠ -103) ∨ jh_I h 7 ρ 13 = 1)
def jZ_F (ρ c : Nat) (h h' : jx_H) : Prop := (∀ a b, a ≠ 9 → a ≠ 6 → ¬ (a = 7 ∧ b = ρ) → ¬ (a = 25 ∧ b = ρ) → jh_I h' a b = jh_I h a b) ∧ (∀ a b, a ≠ 9 → jh_L h' a b = jh_L h a b) ∧ h'.2.2 = h.2.2 ∧ (∀ f, f < 7 → jh_I h' 9 0 f = jh_I h 9 0 f) ∧ (∀ f, f < 6 → jh_I h' 6 0 f = jh_I h 6 0 f) ∧ (∀ f, f ≠ 12 → f ≠ 13 → f ≠ 15 → jh_I h' 7 ρ f = jh_I h 7 ρ f) ∧ (∀ q, q < c → jh_I h' 25 ρ q = jh_I h 25 ρ q)
theorem jZ_F_r (ρ c : Nat) (h : jx_H) : jZ_F ρ c h h := ⟨fun _ _ _ _ _ _ => rfl, fun _ _ _ => rfl, rfl, fun _ _ => rfl, fun _ _ => rfl, fun _ _ _ _ => rfl, fun _ _ => rfl⟩
theorem jZ_F_t {ρ c c1 : Nat} {h h1 h2 : jx_H} (hc : c ≤ c1) (f : jZ_F ρ c h h1) (g : jZ_F ρ c1 h1 h2) : jZ_F ρ c h h2 :=
  ⟨fun a b z1 z2 z3 z4 => (g.1 a b z1 z2 z3 z4).trans (f.1 a b z1 z2 z3 z4), fun a b z => (g.2.1 a b z).trans (f.2.1 a b z), g.2.2.1.trans f.2.2.1, fun x hx => (g.2.2.2.1 x hx).trans (f.2.2.2.1 x hx), fun x hx => (g.2.2.2.2.1 x hx).trans (f.2.2.2.2.1 x hx), fun x z1 z2 z3 => (g.2.2.2.2.2.1 x z1 z2 z3).trans (f.2.2.2.2.2.1 x z1 z2 z3), fun q hq => (g.2.2.2.2.2.2 q (by omega)).trans (f.2.2.2.2.2.2 q hq)⟩
theorem jZ_F_G {ρ c : Nat} {h h' : jx_H} (g : jT_G h h') : jZ_F ρ c h h' := ⟨fun a b z1 _ _ _ => g.1 a b z1, fun a b z => g.2.1 a b z, g.2.2.1, g.2.2.2, fun f _ => congrFun (g.1 6 0 (by decide)) f, fun f _ _ _ => congrFun (g.1 7 ρ (by decide)) f, fun q _ => congrFun (g.1 25 ρ (by decide)) q⟩
theorem jM_eq {h h' : jx_H} (e : h'.2.2 = h.2.2) (a b f : Nat) : jh_M h' a b f = jh_M h a b f := congrFun (congrFun (congrFun (congrArg (·.1) e) a) b) f
theorem jZ_take {h h' : jx_H} {B : Nat → Int32} {sz T ρ t u v c : Nat} (z : jZ h B sz T ρ t u v c) (g : jT_G h h') (cu : jT_cur h' B sz (t + 1)) (hn : t + 1 ≤ T) : jZ h' B sz T ρ (t + 1) u v c := by
  obtain ⟨z1, z2, z3, z4, z5, z6, z7, z8⟩ := z
  refine ⟨jT_al_G z1 g, cu, hn, (jM_eq g.2.2.1 6 0 4).trans z4, (congrFun (g.1 7 ρ (by decide)) 12).trans z5, (congrFun (g.1 6 0 (by decide)) 6).trans z6, (congrFun (g.1 7 ρ (by decide)) 15).trans z7, ?_⟩
  rw [g.1 7 ρ (by decide), g.1 25 ρ (by decide)]
  exact z8
/-- refused -/
def jR_ft (h h' : jx_H) (kd : Int32) (pl : Nat) : Prop := (∀ a b, a ≠ 6 → jh_I h' a b = jh_I h a b) ∧ h'.2 = h.2 ∧ (∀ f, f ≠ 8 → f ≠ 9 → jh_I h' 6 0 f = jh_I h 6 0 f) ∧ jh_I h' 6 0 8 = kd ∧ jh_I h' 6 0 9 = nI pl
def jR_kd (x : Int32) (k : Nat) : Int32 := if k = 1 then 1 else x
theorem jZ_F_ft {ρ c : Nat} {h h' : jx_H} {kd : Int32} {pl : Nat} (g : jR_ft h h' kd pl) : jZ_F ρ c h h' := ⟨fun a b _ z2 _ _ => g.1 a b z2, fun a b _ => congrFun (congrFun (congrArg (·.1) g.2.1) a) b, congrArg (·.2) g.2.1, fun f _ => congrFun (g.1 9 0 (by decide)) f, fun f hf => g.2.2.1 f (by omega) (by omega), fun f _ _ _ => congrFun (g.1 7 ρ (by decide)) f, fun q _ => congrFun (g.1 25 ρ (by decide)) q⟩
set_option maxHeartbeats 800000 in
set_option maxRecDepth 100000 in
theorem ev_refuse {d : Nat} {h : jx_H} {Q : Option jx_V → jx_H → Prop} {B : Nat → Int32} {sz t : Nat} {x : Int32} (hc : jT_cur h B sz t) (k : ∀ h', jR_ft h h' (jR_kd x (jT_K B sz t)) (jT_p B sz t) → Q (some (jv_i 0)) h')  : jx_Ev jm_Rdr_refuse (d + 1) 0 0 false 0 [jv_r 6 0, jv_i x] h Q := by
  show jx_W (jm_Rdr_refuse, d + 1, 0, 0, false, 0, _) Q 0 0 0 [some (jv_r 6 0), some (jv_i x)] [] _
  refine jr_aload rfl rfl ?_
  refine jr_aload rfl rfl ?_
  refine jr_getR rfl rfl rfl rfl (Or.inl rfl) ?_
  refine jr_getI rfl rfl ?_
  refine jr_ic rfl ?_
  rw [hc.2.1]
  refine jr_icmp_ne rfl (fun c5 => ?_) (fun c5 => ?_)
  · refine jr_iload rfl rfl ?_
    refine jr_putI rfl rfl ?_
    refine jr_aload rfl rfl ?_
    refine jr_aload rfl rfl ?_
    refine jr_getR rfl rfl rfl rfl (Or.inl rfl) ?_
    refine jr_getI rfl rfl ?_
    skip
    refine jr_putI rfl rfl ?_
    refine jr_ic rfl ?_
    refine jr_zret rfl rfl rfl (Nat.zero_le _) (Nat.zero_le _) ?_
    refine k _ ⟨fun a b z => ?_, rfl, fun f h1 h2 => ?_, ?_, ?_⟩
    · exact (if_neg (fun y => z y.1)).trans (if_neg (fun y => z y.1))
    · exact (jg_un h2).trans (jg_un h1)
    · show upd (upd (jh_I h 6 0) 8 x) 9 (jh_I h 9 0 9) 8 = _
      rw [jg_un (by decide), jg_us]
      unfold jR_kd
      rw [if_neg (fun z => c5 (by rw [show jT_k B sz (jT_p B sz t) = 1 from z]; rfl))]
    · show upd (upd (jh_I h 6 0) 8 x) 9 (jh_I h 9 0 9) 9 = _
      rw [jg_us]; exact hc.2.2.1
  · refine jr_ic rfl ?_
    refine jr_goto rfl ?_
    refine jr_putI rfl rfl ?_
    refine jr_aload rfl rfl ?_
    refine jr_aload rfl rfl ?_
    refine jr_getR rfl rfl rfl rfl (Or.inl rfl) ?_
    refine jr_getI rfl rfl ?_
    skip
    refine jr_putI rfl rfl ?_
    refine jr_ic rfl ?_
    refine jr_zret rfl rfl rfl (Nat.zero_le _) (Nat.zero_le _) ?_
    refine k _ ⟨fun a b z => ?_, rfl, fun f h1 h2 => ?_, ?_, ?_⟩
    · exact (if_neg (fun y => z y.1)).trans (if_neg (fun y => z y.1))
    · exact (jg_un h2).trans (jg_un h1)
    · show upd (upd (jh_I h 6 0) 8 1) 9 (jh_I h 9 0 9) 8 = _
      rw [jg_un (by decide), jg_us]
      unfold jR_kd
      rw [if_pos (jn_eq (show nI (jT_k B sz (jT_p B sz t)) = nI 1 from c5) (by have := @jT_k_lt B sz (jT_p B sz t); omega) (by decide))]
    · show upd (upd (jh_I h 6 0) 8 1) 9 (jh_I h 9 0 9) 9 = _
      rw [jg_us]; exact hc.2.2.1

def jT_ch (k : Nat) : Nat := if k = 127 then 0 else if k = 119 then 1 else if k = 43 ∨ k = 45 then 3 else if k = 42 ∨ k = 47 ∨ k = 37 then 4 else 6
set_option maxHeartbeats 800000 in
set_option maxRecDepth 100000 in
theorem ev_chainOf {d : Nat} {h : jx_H} {Q : Option jx_V → jx_H → Prop} {kk : Nat} (hk : kk < 256) (k : Q (some (jv_i (nI (jT_ch kk)))) h)  : jx_Ev jm_Rdr_chainOf (d) 0 0 false 0 [jv_i (nI kk)] h Q := by
  show jx_W (jm_Rdr_chainOf, d, 0, 0, false, 0, _) Q 0 0 0 [some (jv_i (nI kk))] [] _
  refine jr_iload rfl rfl ?_
  refine jr_lsw rfl ?_
  refine ⟨fun c1 => ?_, fun n1_37 => ?_⟩
  · refine jr_ic rfl ?_
    refine jr_iret rfl rfl (Nat.zero_le _) (Nat.zero_le _) ?_
    have e : kk = 37 := by rw [nI_toInt (by omega)] at c1; omega
    rw [show jT_ch kk = 4 from by unfold jT_ch; (repeat' split) <;> omega] at k
    exact k
  · skip
    refine ⟨fun c1 => ?_, fun n1_42 => ?_⟩
    · refine jr_ic rfl ?_
      refine jr_iret rfl rfl (Nat.zero_le _) (Nat.zero_le _) ?_
      have e : kk = 42 := by rw [nI_toInt (by omega)] at c1; omega
      rw [show jT_ch kk = 4 from by unfold jT_ch; (repeat' split) <;> omega] at k
      exact k
    · skip
      refine ⟨fun c1 => ?_, fun n1_43 => ?_⟩
      · refine jr_ic rfl ?_
        refine jr_iret rfl rfl (Nat.zero_le _) (Nat.zero_le _) ?_
        have e : kk = 43 := by rw [nI_toInt (by omega)] at c1; omega
        rw [show jT_ch kk = 3 from by unfold jT_ch; (repeat' split) <;> omega] at k
        exact k
      · skip
        refine ⟨fun c1 => ?_, fun n1_45 => ?_⟩
        · refine jr_ic rfl ?_
          refine jr_iret rfl rfl (Nat.zero_le _) (Nat.zero_le _) ?_
          have e : kk = 45 := by rw [nI_toInt (by omega)] at c1; omega
          rw [show jT_ch kk = 3 from by unfold jT_ch; (repeat' split) <;> omega] at k
          exact k
        · skip
          refine ⟨fun c1 => ?_, fun n1_47 => ?_⟩
          · refine jr_ic rfl ?_
            refine jr_iret rfl rfl (Nat.zero_le _) (Nat.zero_le _) ?_
            have e : kk = 47 := by rw [nI_toInt (by omega)] at c1; omega
            rw [show jT_ch kk = 4 from by unfold jT_ch; (repeat' split) <;> omega] at k
            exact k
          · skip
            refine ⟨fun c1 => ?_, fun n1_119 => ?_⟩
            · refine jr_ic rfl ?_
              refine jr_iret rfl rfl (Nat.zero_le _) (Nat.zero_le _) ?_
              have e : kk = 119 := by rw [nI_toInt (by omega)] at c1; omega
              rw [show jT_ch kk = 1 from by unfold jT_ch; (repeat' split) <;> omega] at k
              exact k
            · skip
              refine ⟨fun c1 => ?_, fun n1_127 => ?_⟩
              · refine jr_ic rfl ?_
                refine jr_iret rfl rfl (Nat.zero_le _) (Nat.zero_le _) ?_
                have e : kk = 127 := by rw [nI_toInt (by omega)] at c1; omega
                rw [show jT_ch kk = 0 from by unfold jT_ch; (repeat' split) <;> omega] at k
                exact k
              · skip
                refine jr_ic rfl ?_
                refine jr_iret rfl rfl (Nat.zero_le _) (Nat.zero_le _) ?_
                have e37 : kk ≠ 37 := fun z => n1_37 (by rw [z]; rfl)
                have e42 : kk ≠ 42 := fun z => n1_42 (by rw [z]; rfl)
                have e43 : kk ≠ 43 := fun z => n1_43 (by rw [z]; rfl)
                have e45 : kk ≠ 45 := fun z => n1_45 (by rw [z]; rfl)
                have e47 : kk ≠ 47 := fun z => n1_47 (by rw [z]; rfl)
                have e119 : kk ≠ 119 := fun z => n1_119 (by rw [z]; rfl)
                have e127 : kk ≠ 127 := fun z => n1_127 (by rw [z]; rfl)
                rw [show jT_ch kk = 6 from by unfold jT_ch; (repeat' split) <;> omega] at k
                exact k

def jE_F (ρ c : Nat) (x : Int32) (h h' : jx_H) : Prop := (∀ a b, ¬ (a = 7 ∧ b = ρ) → ¬ (a = 25 ∧ b = ρ) → jh_I h' a b = jh_I h a b) ∧ h'.2 = h.2 ∧ jh_I h' 25 ρ = upd (jh_I h 25 ρ) c x ∧ (∀ f, f ≠ 13 → f ≠ 15 → jh_I h' 7 ρ f = jh_I h 7 ρ f) ∧ jh_I h' 7 ρ 15 = nI (c + 1) ∧ (jh_I h' 7 ρ 13 = 0 ∧ jh_I h 7 ρ 13 = 0 ∧ x ≠ -102 ∧ x ≠ -103 ∨ jh_I h' 7 ρ 13 = 1)
def jE_1 (h : jx_H) (ρ c : Nat) (x : Int32) : jx_H := ju_I h 25 ρ (upd (jh_I h 25 ρ) c x)
def jE_2 (h : jx_H) (ρ c : Nat) (x : Int32) : jx_H := ju_I (jE_1 h ρ c x) 7 ρ (upd (jh_I (jE_1 h ρ c x) 7 ρ) 15 (jh_I (jE_1 h ρ c x) 7 ρ 15 + 1))
def jE_3 (h : jx_H) (ρ c : Nat) (x b : Int32) : jx_H := ju_I (jE_2 h ρ c x) 7 ρ (upd (jh_I (jE_2 h ρ c x) 7 ρ) 13 (jh_I (jE_2 h ρ c x) 7 ρ 13 ||| b))
theorem jE_17 (h : jx_H) (ρ c : Nat) (x : Int32) : jh_I (jE_1 h ρ c x) 7 ρ = jh_I h 7 ρ := rfl
theorem jE_27 (h : jx_H) (ρ c : Nat) (x : Int32) : jh_I (jE_2 h ρ c x) 7 ρ = upd (jh_I h 7 ρ) 15 (jh_I h 7 ρ 15 + 1) := by
  unfold jE_2
  rw [jg_II, jE_17]
theorem jE_37 (h : jx_H) (ρ c : Nat) (x b : Int32) : jh_I (jE_3 h ρ c x b) 7 ρ = upd (upd (jh_I h 7 ρ) 15 (jh_I h 7 ρ 15 + 1)) 13 (jh_I h 7 ρ 13 ||| b) := by
  unfold jE_3
  rw [jg_II, jE_27, jg_un (by decide)]
theorem jE_z {h : jx_H} {ρ c : Nat} {x b : Int32} (ha : jh_I h 7 ρ 13 = 0 ∨ jh_I h 7 ρ 13 = 1) (hb : b = 0 ∨ b = 1) : (jh_I (jE_2 h ρ c x) 7 ρ 13 ||| b) = 0 ∨ (jh_I (jE_2 h ρ c x) 7 ρ 13 ||| b) = 1 := by
  rw [jE_27, jg_un (by decide)]
  rcases ha with z | z <;> rcases hb with y | y <;> rw [z, y] <;> decide
theorem jE_mk {h : jx_H} {ρ c : Nat} {x b : Int32} (hn : jh_I h 7 ρ 15 = nI c) (ha : jh_I h 7 ρ 13 = 0 ∨ jh_I h 7 ρ 13 = 1) (hb : b = 1 ∨ b = 0 ∧ x ≠ -102 ∧ x ≠ -103) : jE_F ρ c x h (jE_3 h ρ c x b) := by
  refine ⟨fun a b z1 z2 => (if_neg z1).trans ((if_neg z1).trans (if_neg z2)), rfl, ?_, fun f h1 h2 => ?_, ?_, ?_⟩
  · exact jg_II h 25 ρ _
  · rw [jE_37, jg_un h1, jg_un h2]
  · rw [jE_37, jg_un (by decide), jg_us, hn, jn_S]
  · rw [jE_37, jg_us]
    rcases hb with y | ⟨y, y2, y3⟩
    · right
      rcases ha with z | z <;> rw [z, y] <;> decide
    · rcases ha with z | z
      · left
        rw [z, y]
        exact ⟨by decide, rfl, y2, y3⟩
      · right
        rw [z, y]
        decide
set_option maxHeartbeats 800000 in
set_option maxRecDepth 100000 in
theorem ev_emit {d : Nat} {h : jx_H} {Q : Option jx_V → jx_H → Prop} {ρ c : Nat} {x : Int32} (hn : jh_I h 7 ρ 15 = nI c) (hc : c < 1700) (ha : jh_I h 7 ρ 13 = 0 ∨ jh_I h 7 ρ 13 = 1) (k : ∀ h', jE_F ρ c x h h' → Q none h')  : jx_Ev jm_Rep_emit (d + 1) 0 0 false 0 [jv_r 7 ρ, jv_i x] h Q := by
  show jx_W (jm_Rep_emit, d + 1, 0, 0, false, 0, _) Q 0 0 0 [some (jv_r 7 ρ), some (jv_i x)] [] _
  refine jr_aload rfl rfl ?_
  refine jr_getI rfl rfl ?_
  refine jr_aload rfl rfl ?_
  refine jr_getR rfl rfl rfl rfl (Or.inl rfl) ?_
  refine jr_alen (so := 1) (len := 1700) rfl rfl rfl rfl ?_
  rw [hn]
  refine jr_icmp_ge rfl (fun z => absurd z (nI_ge (a := c) (b := 1700) hc (by decide))) (fun _ => ?_)
  refine jr_aload rfl rfl ?_
  refine jr_getR rfl rfl rfl rfl (Or.inl rfl) ?_
  refine jr_aload rfl rfl ?_
  refine jr_getI rfl rfl ?_
  refine jr_iload rfl rfl ?_
  refine jr_iast (len := 1700) rfl rfl hn (by omega) ?_
  refine jr_aload rfl rfl ?_
  refine jr_dup_r rfl ?_
  refine jr_getI rfl rfl ?_
  refine jr_ic rfl ?_
  refine jr_iadd rfl ?_
  refine jr_putI rfl rfl ?_
  refine jr_aload rfl rfl ?_
  refine jr_dup_r rfl ?_
  refine jr_getZ rfl rfl ?_
  refine jr_iload rfl rfl ?_
  refine jr_ic rfl ?_
  refine jr_icmp_eq rfl (fun c23 => ?_) (fun c23 => ?_)
  · refine jr_ic rfl ?_
    refine jr_goto rfl ?_
    refine jr_ior rfl ?_
    refine jr_putZ rfl rfl (jE_z ha (by first | exact Or.inl rfl | exact Or.inr rfl)) ?_
    refine jr_vret rfl rfl (Nat.zero_le _) (Nat.zero_le _) ?_
    exact k _ (jE_mk hn ha (Or.inl rfl))
  · refine jr_iload rfl rfl ?_
    refine jr_ic rfl ?_
    refine jr_icmp_ne rfl (fun c26 => ?_) (fun c26 => ?_)
    · refine jr_ic rfl ?_
      refine jr_ior rfl ?_
      refine jr_putZ rfl rfl (jE_z ha (by first | exact Or.inl rfl | exact Or.inr rfl)) ?_
      refine jr_vret rfl rfl (Nat.zero_le _) (Nat.zero_le _) ?_
      exact k _ (jE_mk hn ha (Or.inr ⟨rfl, c23, c26⟩))
    · refine jr_ic rfl ?_
      refine jr_goto rfl ?_
      refine jr_ior rfl ?_
      refine jr_putZ rfl rfl (jE_z ha (by first | exact Or.inl rfl | exact Or.inr rfl)) ?_
      refine jr_vret rfl rfl (Nat.zero_le _) (Nat.zero_le _) ?_
      exact k _ (jE_mk hn ha (Or.inl rfl))

theorem jZ_emit {h h' : jx_H} {B : Nat → Int32} {sz T ρ t u v c : Nat} {x : Int32} (z : jZ h B sz T ρ t u v c) (e : jE_F ρ c x h h') : jZ h' B sz T ρ t u v (c + 1) := by
  obtain ⟨z1, z2, z3, z4, z5, z6, z7, z8⟩ := z
  have eI := fun a b z1 z2 => e.1 a b z1 z2
  have e9 := eI 9 0 (fun z => absurd z.1 (by decide)) (fun z => absurd z.1 (by decide))
  have e18 := eI 18 0 (fun z => absurd z.1 (by decide)) (fun z => absurd z.1 (by decide))
  have e19 := eI 19 0 (fun z => absurd z.1 (by decide)) (fun z => absurd z.1 (by decide))
  have e6 := eI 6 0 (fun z => absurd z.1 (by decide)) (fun z => absurd z.1 (by decide))
  have eL : ∀ a b, jh_L h' a b = jh_L h a b := fun a b => congrFun (congrFun (congrArg (·.1) e.2.1) a) b
  refine ⟨?_, ?_, z3, (jM_eq (congrArg (·.2) e.2.1) 6 0 4).trans z4, (e.2.2.2.1 12 (by decide) (by decide)).trans z5, (congrFun e6 6).trans z6, e.2.2.2.2.1, ?_⟩
  · obtain ⟨a1, a2, a3, a4, a5⟩ := z1
    refine ⟨fun q hq => ?_, a2, (congrFun e9 6).trans a3, a4, a5.1, (congrFun e6 8).trans a5.2.1, (congrFun e6 9).trans a5.2.2⟩
    unfold jT_tk
    rw [e18, e19, eL 20 0]
    exact a1 q hq
  · unfold jT_cur
    rw [e9, eL 9 0]
    exact z2
  · rcases e.2.2.2.2.2 with ⟨y1, y2, y3, y4⟩ | y
    · rcases z8 with ⟨_, z9⟩ | z9
      · refine Or.inl ⟨y1, fun q hq => ?_⟩
        rw [e.2.2.1]
        by_cases w : q = c
        · rw [w, jg_us]; exact ⟨y3, y4⟩
        · rw [jg_un w]; exact z9 q (by omega)
      · rw [y2] at z9
        exact absurd z9 (by decide)
    · exact Or.inr y
theorem jZ_F_E {ρ c : Nat} {x : Int32} {h h' : jx_H} (e : jE_F ρ c x h h') : jZ_F ρ c h h' := ⟨fun a b _ _ z3 z4 => e.1 a b z3 z4, fun a b _ => congrFun (congrFun (congrArg (·.1) e.2.1) a) b, congrArg (·.2) e.2.1, fun f _ => congrFun (e.1 9 0 (fun z => absurd z.1 (by decide)) (fun z => absurd z.1 (by decide))) f, fun f _ => congrFun (e.1 6 0 (fun z => absurd z.1 (by decide)) (fun z => absurd z.1 (by decide))) f, fun f _ h2 h3 => e.2.2.2.1 f h2 h3, fun q hq => by rw [e.2.2.1, jg_un (by omega)]⟩
theorem jZ_asks {h : jx_H} {B : Nat → Int32} {sz T ρ t u v c : Nat} (z : jZ h B sz T ρ t u v c) : jh_I h 7 ρ 13 = 0 ∨ jh_I h 7 ρ 13 = 1 := by
  rcases z.2.2.2.2.2.2.2 with ⟨y, _⟩ | y
  · exact Or.inl y
  · exact Or.inr y
/-- what reading a part of a formula comes to -/
def jO (B : Nat → Int32) (sz T β ρ i lv θ μ t u v c : Nat) (hc : jx_H) (r : Option jx_V) (hc' : jx_H) : Prop :=
  (r = some (jv_i 1) ∧ ∃ x t' c', jZ hc' B sz T ρ t' (u + x) (v + x) c' ∧ jZ_F ρ c hc hc' ∧ c ≤ c' ∧ 1 ≤ x ∧ u + x ≤ 90 ∧ v + x ≤ 30 ∧ 8 * u + jT_p B sz t + 4 * c' + 4 + (if jT_K B sz t = 128 then 0 else 1) ≤ 8 * (u + x) + jT_p B sz t' + 4 * c ∧ (jT_rk (jT_K B sz t') < μ ∨ jT_rk (jT_K B sz t') = 4) ∧ jTR B sz β i lv θ μ t u v c x t' c' (jh_I hc' 25 ρ)) ∨
  (r = some (jv_i 0) ∧ ∃ kd pl, jh_I hc' 6 0 8 = kd ∧ jh_I hc' 6 0 9 = nI pl ∧ ((kd = 1 ∨ kd = 2) ∧ pl ≤ sz) ∧ jZ_F ρ c hc hc' ∧ jTB B sz β i lv θ t u v c kd pl (jh_I hc' 25 ρ))
