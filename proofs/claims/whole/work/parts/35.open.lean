set_option maxHeartbeats 4000000 in
set_option maxRecDepth 100000 in
theorem ev_Poll_value {d : Nat} {h : jx_H} {Q : Option jx_V → jx_H → Prop} {hm : jx_H} {b c r w : Nat} {pp l : Int32} {fact : Int32 → Int32} {ask : Int32 → Int32 → Int32} (hw6 : w < 6) (hcal : jh_M h 5 0 5 = c + 1) (hrep : jh_M h 1 c 0 = r + 1) (hcode : jy_code h r hm b w) (hf : ∀ (F : Nat → Int32) (kd : Int32) (Q : Option jx_V → jx_H → Prop), Q (some (jv_i (fact kd))) (ju_I h 37 0 F) → jx_Ev jm_Poll_factOf d 0 0 false 0 [jv_r 5 0, jv_i kd, jv_i pp, jv_i l] (ju_I h 37 0 F) Q)
  (hask : ¬ jC hm b 18 w = 0 → ∀ q, q < jw_rn hm b w → ∀ kd, jt_wd kd (jh_I hm 93 0 (jw_rk hm b w + q)) → fact kd = ask (jh_I hm 93 0 (jw_rk hm b w + q)) (jh_I hm 94 0 (jw_rk hm b w + q))) (hask2 : ∀ n, ask 110 n = n) 
  (hQ : ∀ F : Nat → Int32, Q (some (jv_i (if jC hm b 18 w = 0 then 0 else jw_val hm b w ask))) (ju_I h 37 0 F)) : jx_Ev jm_Poll_valueOf (d + 1) 0 0 false 0 [jv_r 5 0, jv_i (nI w), jv_i pp, jv_i l] h Q := by
  show jx_W (jm_Poll_valueOf, d + 1, 0, 0, false, 0, _) Q 0 0 0 [some (jv_r 5 0), some (jv_i (nI w)), some (jv_i pp), some (jv_i l), none, none, none, none, none] [] _
  obtain ⟨s, hs1, hs2, hs3, hs4⟩ := hcode
  refine jr_aload rfl rfl ?_
  refine jr_getM rfl rfl rfl rfl hcal ?_
  refine jr_getM rfl rfl rfl rfl hrep ?_
  refine jr_getR rfl rfl rfl rfl (Or.inl rfl) ?_
  refine jr_ast4 rfl rfl ?_
  refine jr_aload rfl rfl ?_
  refine jr_getM rfl rfl rfl rfl hcal ?_
  refine jr_getM rfl rfl rfl rfl hrep ?_
  refine jr_iload rfl rfl ?_
  refine jr_cv1 (mc' := 0) (ms' := 0) rfl jm_Rep_endOf_n jm_Rep_endOf_f rfl rfl rfl rfl rfl rfl rfl (Nat.zero_le _) (Nat.zero_le _) ?_
  refine ev_Rep_endOf hw6 ?_
  rw [hs2]
  refine jr_aload rfl rfl ?_
  refine jr_alen (so := 1) (len := 1700) rfl rfl rfl rfl ?_
  refine jr_cs2 (mc' := 0) (ms' := 0) rfl jm_Math_min_n jm_Math_min_f rfl rfl rfl rfl rfl (Nat.zero_le _) (Nat.zero_le _) ?_
  refine ev_Math_min ?_
  rw [if_pos (nI_le (a := s + jy_rn hm b w) (b := 1700) hs3 (by decide))]
  refine jr_ist5 rfl rfl ?_
  refine jr_ic rfl ?_
  refine jr_ist6 rfl rfl ?_
  refine jr_aload rfl rfl ?_
  refine jr_getM rfl rfl rfl rfl hcal ?_
  refine jr_getM rfl rfl rfl rfl hrep ?_
  refine jr_iload rfl rfl ?_
  refine jr_cv1 (mc' := 0) (ms' := 0) rfl jm_Rep_startOf_n jm_Rep_startOf_f rfl rfl rfl rfl rfl rfl rfl (Nat.zero_le _) (Nat.zero_le _) ?_
  refine ev_Rep_startOf hw6 ?_
  rw [hs1]
  refine jr_ist7 rfl rfl ?_
  by_cases hz : jC hm b 18 w = 0
  · have e0 : s + jy_rn hm b w = s := by unfold jy_rn; rw [if_pos hz, Nat.add_zero]
    rw [e0]
    refine jr_iload rfl rfl ?_
    refine jr_iload rfl rfl ?_
    refine jr_icmp_ge rfl (fun _ => ?_) (fun z => absurd (nI_le (Nat.le_refl s) (by omega)) z)
    refine jr_iload rfl rfl ?_
    refine jr_if_le rfl (fun _ => ?_) (fun z => absurd (by decide) z)
    refine jr_ic rfl ?_
    refine jr_iret rfl rfl (Nat.zero_le _) (Nat.zero_le _) ?_
    have := hQ (jh_I h 37 0)
    rw [if_pos hz, jg_self] at this
    exact this
  · obtain ⟨g1, g2, -⟩ := hs4 hz
    have e0 : jy_rn hm b w = jw_rn hm b w := if_neg hz
    rw [e0] at hs3 ⊢
    have := lp_Poll_value (d := d) (n0 := jh_n h) (Q := Q) (h := h) (F := jh_I h 37 0) (wh := nI w) (pp := pp) (l := l) (fact := fact) (ask := ask) (s := []) (m := 0) (E := s + jw_rn hm b w) (cd := jh_I hm 93 0) (nm := jh_I hm 94 0) (k := jw_rk hm b w) (jw_rn hm b w) s hcal hrep rfl hs3 g1 g2 (Nat.zero_le _) rfl trivial hf (hask hz) hask2 (fun F => by
      have := hQ F
      rw [if_neg hz] at this
      exact this)
    rw [jg_self] at this
    exact this

theorem jt_ask {C : jw_C} {a : jw_A} {E : Nat → Int32} {mo l g w dr y hv kd c n : Int32} (h : jt_wd kd c) (h1 : mo = jw_month C a) (h2 : l = E 0) (h3 : c = 103 → g = E 1) (h4 : c = 111 → w = E 2) (h5 : dr = E 3) (h6 : y = a 0 / C 0 0) (h7 : hv = E 4) : jt_fact mo l g w dr y hv kd = jw_asked C a E c n := by
  rcases h with ⟨rfl, rfl⟩ | ⟨rfl, rfl⟩ | ⟨rfl, rfl⟩ | ⟨rfl, rfl⟩ | ⟨rfl, rfl⟩ | ⟨rfl, rfl⟩ | ⟨rfl, rfl⟩
  · exact h1
  · exact h2
  · exact h3 rfl
  · exact h4 rfl
  · exact h5
  · exact h6
  · exact h7
theorem jt_ask2 {C : jw_C} {a : jw_A} {E : Nat → Int32} (n : Int32) : jw_asked C a E 110 n = n := rfl
/-- what the poll holds of the coming month -/
def jy_Pf (S : Nat → Nat → Int32) (asks : Int32) (hm : jx_H) (b : Nat) : Prop :=
  S 5 7 = jw_month (jC hm b) (jA hm) ∧ S 5 8 = jA hm 0 / jC hm b 0 0 ∧ (∀ l, l < 32 → S 5 9 + nI l = jw_down (jw_dU (jC hm b) (jA hm 1 + nI l) (jA hm 0 + 1)) (jw_dL (jC hm b))) ∧
  (¬ asks = 0 → ∀ p l, p < 5 → l < 32 → S 40 (p * 32 + l) = jw_part (jC hm b) (jA hm) 7 (nI p) (nI l) (jz_nd hm b) ∧ S 41 (p * 32 + l) = jw_part (jC hm b) (jA hm) 6 (nI p) (nI l) (jz_nd hm b))
def jy_Pm (S : Nat → Nat → Int32) (hm : jx_H) (b : Nat) : Prop := ∀ l, l < 32 → jy_u (S 5 6) l = jw_mayb hm b l
theorem eP_law {d : Nat} {Q : Option jx_V → jx_H → Prop} {h hm : jx_H} {b c r : Nat} {S : Nat → Nat → Int32} {l : Nat} (hw : jz_W hm b) (hmo : ¬ jC hm b 0 0 = 0) (hA : jy_A h c r (jA hm)) (hR : jy_R h r hm b) (hP : jy_Pf S (jh_I h 7 r 13) hm b) (hl : l < 32)
  (k : ∀ S' : Nat → Nat → Int32, (∀ x, x ≠ 37 → S' x = S x) → Q (some (jv_i (if jC hm b 18 5 = 0 then 0 else jw_law hm b l))) (jP h S' (c + 1))) : jx_Ev jm_Poll_valueOf (d + 1) 0 0 false 0 [jv_r 5 0, jv_i 5, jv_i (-1), jv_i (nI l)] (jP h S (c + 1)) Q := by
  obtain ⟨p1, p2, p3, p4⟩ := hP
  refine ev_Poll_value (w := 5) (hm := hm) (b := b) (c := c) (r := r) (fact := jt_fact (S 5 7) (nI l) 0 0 (S 5 9 + nI l) (S 5 8) 0) (ask := jw_asked (jC hm b) (jA hm) (jw_lenv (jC hm b) (jA hm) (nI l))) (by decide) rfl hA.1 (hR.2.2.2.2.2.2.2.2.2.2.2.2 5 (by decide)) (fun F kd Q hQ => ev_Poll_fact0 hQ) (fun _ q hq kd hk => jt_ask hk p1 rfl (fun _ => rfl) (fun _ => rfl) (p3 l hl) p2 rfl) jt_ask2 (fun F => ?_)
  rw [jP_37]
  exact k _ (fun x hx => if_neg hx)
theorem eP_worth {d : Nat} {Q : Option jx_V → jx_H → Prop} {h hm : jx_H} {b c r : Nat} {S : Nat → Nat → Int32} {p l : Nat} (hw : jz_W hm b) (hmo : ¬ jC hm b 0 0 = 0) (hA : jy_A h c r (jA hm)) (hR : jy_R h r hm b) (hP : jy_Pf S (jh_I h 7 r 13) hm b) (hp : p < 5) (hl : l < 32)
  (k : ∀ S' : Nat → Nat → Int32, (∀ x, x ≠ 37 → S' x = S x) → Q (some (jv_i (jw_worth hm b p (nI l) (jz_nd hm b)))) (jP h S' (c + 1))) : jx_Ev jm_Poll_valueOf (d + 1) 0 0 false 0 [jv_r 5 0, jv_i (nI p), jv_i (nI p), jv_i (nI l)] (jP h S (c + 1)) Q := by
  obtain ⟨p1, p2, p3, p4⟩ := hP
  have hc := hR.2.2.2.2.2.2.2.2.2.2.2.2 p (by omega)
  have hc' := hc
  obtain ⟨s, -, -, -, hs⟩ := hc'
  refine ev_Poll_value (w := p) (hm := hm) (b := b) (c := c) (r := r) (fact := jt_fact (S 5 7) (nI l) (S 40 (p * 32 + l)) (S 41 (p * 32 + l)) (S 5 9 + nI l) (S 5 8) (jh_I h 32 c p)) (ask := jw_asked (jC hm b) (jA hm) (jw_env (jC hm b) (jA hm) p (nI l) (jz_nd hm b))) (by omega) rfl hA.1 hc (fun F kd Q hQ => ev_Poll_fact1 hp hl rfl hQ) (fun hz q hq kd hk => jt_ask hk p1 rfl (fun z => ?_) (fun z => ?_) (p3 l hl) p2 (hA.2.2.2.1 p hp).1) jt_ask2 (fun F => ?_)
  · by_cases e : jh_I h 7 r 13 = 0
    · exact absurd z ((hs hz).2.2 e q hq).1
    · exact (p4 e p l hp hl).1
  · by_cases e : jh_I h 7 r 13 = 0
    · exact absurd z ((hs hz).2.2 e q hq).2
    · exact (p4 e p l hp hl).2
  · rw [jP_37]
    exact k _ (fun x hx => if_neg hx)
