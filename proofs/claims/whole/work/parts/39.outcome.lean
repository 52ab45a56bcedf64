set_option maxHeartbeats 800000 in
set_option maxRecDepth 100000 in
theorem lp_take39 {d n0 : Nat} {Q : Option jx_V → jx_H → Prop} {h hm : jx_H} {b c r : Nat} {S0 : Nat → Nat → Int32} (S : Nat → Nat → Int32) (p : Nat) (hw : jz_W hm b) (hA : jy_A h c r (jA hm)) (hR : jy_R h r hm b) (hmo : ¬ jC hm b 0 0 = 0) (hP : jy_Pf S0 (jh_I h 7 r 13) hm b) (hM : jy_Pm S0 hm b) (hp : p ≤ jz_np hm b) (hfr : ∀ x, x ≠ 37 → x ≠ 39 → S x = S0 x) (hV : ∀ q, q < p → S 39 q = jw_voteb hm b q) (k : ∀ S' : Nat → Nat → Int32, (∀ x, x ≠ 37 → x ≠ 39 → S' x = S0 x) → (∀ p, p < jz_np hm b → S' 39 p = jw_voteb hm b p) → Q none (jP h S' (c + 1)))  : jx_W (jm_Poll_takeBallots, d + 3, 0, 0, false, 0, n0) Q 0 0 2 [some (jv_r 5 0), some (jv_r 39 0), some (jv_i (nI p))] [] (jP h S (c + 1)) := by
  have hnp := hw.2.2.1.2.1
  have hnp5 := hnp.2
  have hP' : jy_Pf S (jh_I h 7 r 13) hm b := by
    unfold jy_Pf at hP ⊢
    rw [hfr 5 (by decide) (by decide), hfr 40 (by decide) (by decide), hfr 41 (by decide) (by decide)]
    exact hP
  have hM' : jy_Pm S hm b := by unfold jy_Pm; rw [hfr 5 (by decide) (by decide)]; exact hM
  refine jr_iload rfl rfl ?_
  refine jr_aload rfl rfl ?_
  refine jr_getM rfl rfl rfl rfl rfl ?_
  refine jr_getM rfl rfl rfl rfl hA.1 ?_
  refine jr_getI rfl rfl ?_
  rw [show jh_I (jP h S (c + 1)) 7 r 3 = nI (jz_np hm b) from hR.2.1.trans hnp.1]
  refine jr_icmp_ge rfl (fun c7 => ?_) (fun c7 => ?_)
  · refine jr_vret rfl rfl (Nat.zero_le _) (Nat.zero_le _) ?_
    have hp2 : p = jz_np hm b := by have := jn_le (show nI (jz_np hm b) ≤ nI p from c7) (by omega) (by omega); omega
    subst hp2
    exact k S hfr hV
  · have hp1 : p < jz_np hm b := jn_nle (show ¬ nI (jz_np hm b) ≤ nI p from c7) (by omega) (by omega)
    refine jr_iload rfl rfl ?_
    refine jr_aload rfl rfl ?_
    refine jr_alen (so := 1) (len := 5) rfl rfl rfl rfl ?_
    refine jr_icmp_ge rfl (fun z => absurd z (nI_ge (a := p) (b := 5) (by omega) (by decide))) (fun _ => ?_)
    refine jr_aload rfl rfl ?_
    refine jr_iload rfl rfl ?_
    refine jr_aload rfl rfl ?_
    refine jr_iload rfl rfl ?_
    refine jr_cv1 (mc' := 0) (ms' := 0) rfl jm_Poll_voteOf_n jm_Poll_voteOf_f rfl rfl rfl rfl rfl rfl rfl (Nat.zero_le _) (Nat.zero_le _) ?_
    refine ev_Poll_voteOf hw hA hR hmo hP' hM' (by omega) (fun S1 f1 => ?_)
    refine jr_iast (len := 5) rfl rfl rfl (by omega) ?_
    refine jr_iinc2 rfl rfl ?_
    refine jr_goto rfl ?_
    simp only [jP_39, jP_r39]
    rw [jn_S]
    refine lp_take39 _ (p + 1) hw hA hR hmo hP hM (by omega) (fun x h1 h2 => (if_neg h2).trans ((f1 x h1).trans (hfr x h1 h2))) (fun q hq => ?_) k
    show upd (S1 39) p (jw_voteb hm b p) q = _
    by_cases e : q = p
    · rw [e, jg_us]
    · rw [jg_un e, f1 39 (by decide)]; exact hV q (by omega)
termination_by jz_np hm b - p
decreasing_by all_goals omega

set_option maxHeartbeats 800000 in
set_option maxRecDepth 100000 in
theorem ev_take39 {d : Nat} {h : jx_H} {Q : Option jx_V → jx_H → Prop} {hm : jx_H} {b c r : Nat} {S0 : Nat → Nat → Int32} (hw : jz_W hm b) (hA : jy_A h c r (jA hm)) (hR : jy_R h r hm b) (hmo : ¬ jC hm b 0 0 = 0) (hP : jy_Pf S0 (jh_I h 7 r 13) hm b) (hM : jy_Pm S0 hm b) (k : ∀ S' : Nat → Nat → Int32, (∀ x, x ≠ 37 → x ≠ 39 → S' x = S0 x) → (∀ p, p < jz_np hm b → S' 39 p = jw_voteb hm b p) → Q none (jP h S' (c + 1)))  : jx_Ev jm_Poll_takeBallots (d + 3) 0 0 false 0 [jv_r 5 0, jv_r 39 0] (jP h S0 (c + 1)) Q := by
  show jx_W (jm_Poll_takeBallots, d + 3, 0, 0, false, 0, _) Q 0 0 0 [some (jv_r 5 0), some (jv_r 39 0), none] [] _
  refine jr_ic rfl ?_
  refine jr_ist2 rfl rfl ?_
  exact lp_take39 S0 0 hw hA hR hmo hP hM (Nat.zero_le _) (fun _ _ _ => rfl) (fun q hq => absurd hq (by omega)) k

set_option maxHeartbeats 800000 in
set_option maxRecDepth 100000 in
theorem lp_take42 {d n0 : Nat} {Q : Option jx_V → jx_H → Prop} {h hm : jx_H} {b c r : Nat} {S0 : Nat → Nat → Int32} (S : Nat → Nat → Int32) (p : Nat) (hw : jz_W hm b) (hA : jy_A h c r (jA hm)) (hR : jy_R h r hm b) (hmo : ¬ jC hm b 0 0 = 0) (hP : jy_Pf S0 (jh_I h 7 r 13) hm b) (hM : jy_Pm S0 hm b) (hp : p ≤ jz_np hm b) (hfr : ∀ x, x ≠ 37 → x ≠ 42 → S x = S0 x) (hV : ∀ q, q < p → S 42 q = jw_voteb hm b q) (k : ∀ S' : Nat → Nat → Int32, (∀ x, x ≠ 37 → x ≠ 42 → S' x = S0 x) → (∀ p, p < jz_np hm b → S' 42 p = jw_voteb hm b p) → Q none (jP h S' (c + 1)))  : jx_W (jm_Poll_takeBallots, d + 3, 0, 0, false, 0, n0) Q 0 0 2 [some (jv_r 5 0), some (jv_r 42 0), some (jv_i (nI p))] [] (jP h S (c + 1)) := by
  have hnp := hw.2.2.1.2.1
  have hnp5 := hnp.2
  have hP' : jy_Pf S (jh_I h 7 r 13) hm b := by
    unfold jy_Pf at hP ⊢
    rw [hfr 5 (by decide) (by decide), hfr 40 (by decide) (by decide), hfr 41 (by decide) (by decide)]
    exact hP
  have hM' : jy_Pm S hm b := by unfold jy_Pm; rw [hfr 5 (by decide) (by decide)]; exact hM
  refine jr_iload rfl rfl ?_
  refine jr_aload rfl rfl ?_
  refine jr_getM rfl rfl rfl rfl rfl ?_
  refine jr_getM rfl rfl rfl rfl hA.1 ?_
  refine jr_getI rfl rfl ?_
  rw [show jh_I (jP h S (c + 1)) 7 r 3 = nI (jz_np hm b) from hR.2.1.trans hnp.1]
  refine jr_icmp_ge rfl (fun c7 => ?_) (fun c7 => ?_)
  · refine jr_vret rfl rfl (Nat.zero_le _) (Nat.zero_le _) ?_
    have hp2 : p = jz_np hm b := by have := jn_le (show nI (jz_np hm b) ≤ nI p from c7) (by omega) (by omega); omega
    subst hp2
    exact k S hfr hV
  · have hp1 : p < jz_np hm b := jn_nle (show ¬ nI (jz_np hm b) ≤ nI p from c7) (by omega) (by omega)
    refine jr_iload rfl rfl ?_
    refine jr_aload rfl rfl ?_
    refine jr_alen (so := 1) (len := 5) rfl rfl rfl rfl ?_
    refine jr_icmp_ge rfl (fun z => absurd z (nI_ge (a := p) (b := 5) (by omega) (by decide))) (fun _ => ?_)
    refine jr_aload rfl rfl ?_
    refine jr_iload rfl rfl ?_
    refine jr_aload rfl rfl ?_
    refine jr_iload rfl rfl ?_
    refine jr_cv1 (mc' := 0) (ms' := 0) rfl jm_Poll_voteOf_n jm_Poll_voteOf_f rfl rfl rfl rfl rfl rfl rfl (Nat.zero_le _) (Nat.zero_le _) ?_
    refine ev_Poll_voteOf hw hA hR hmo hP' hM' (by omega) (fun S1 f1 => ?_)
    refine jr_iast (len := 5) rfl rfl rfl (by omega) ?_
    refine jr_iinc2 rfl rfl ?_
    refine jr_goto rfl ?_
    simp only [jP_42, jP_r42]
    rw [jn_S]
    refine lp_take42 _ (p + 1) hw hA hR hmo hP hM (by omega) (fun x h1 h2 => (if_neg h2).trans ((f1 x h1).trans (hfr x h1 h2))) (fun q hq => ?_) k
    show upd (S1 42) p (jw_voteb hm b p) q = _
    by_cases e : q = p
    · rw [e, jg_us]
    · rw [jg_un e, f1 42 (by decide)]; exact hV q (by omega)
termination_by jz_np hm b - p
decreasing_by all_goals omega

set_option maxHeartbeats 800000 in
set_option maxRecDepth 100000 in
theorem ev_take42 {d : Nat} {h : jx_H} {Q : Option jx_V → jx_H → Prop} {hm : jx_H} {b c r : Nat} {S0 : Nat → Nat → Int32} (hw : jz_W hm b) (hA : jy_A h c r (jA hm)) (hR : jy_R h r hm b) (hmo : ¬ jC hm b 0 0 = 0) (hP : jy_Pf S0 (jh_I h 7 r 13) hm b) (hM : jy_Pm S0 hm b) (k : ∀ S' : Nat → Nat → Int32, (∀ x, x ≠ 37 → x ≠ 42 → S' x = S0 x) → (∀ p, p < jz_np hm b → S' 42 p = jw_voteb hm b p) → Q none (jP h S' (c + 1)))  : jx_Ev jm_Poll_takeBallots (d + 3) 0 0 false 0 [jv_r 5 0, jv_r 42 0] (jP h S0 (c + 1)) Q := by
  show jx_W (jm_Poll_takeBallots, d + 3, 0, 0, false, 0, _) Q 0 0 0 [some (jv_r 5 0), some (jv_r 42 0), none] [] _
  refine jr_ic rfl ?_
  refine jr_ist2 rfl rfl ?_
  exact lp_take42 S0 0 hw hA hR hmo hP hM (Nat.zero_le _) (fun _ _ _ => rfl) (fun q hq => absurd hq (by omega)) k

def jw_sum (f : Nat → Int32) : Nat → Int32
  | 0 => 0
  | n + 1 => jw_sum f n + f n
theorem jw_sum_congr {f g : Nat → Int32} : ∀ {n : Nat}, (∀ j, j < n → f j = g j) → jw_sum f n = jw_sum g n
  | 0, _ => rfl
  | n + 1, h => by rw [jw_sum, jw_sum, jw_sum_congr (fun j hj => h j (by omega)), h n (by omega)]
theorem jw_sum_upd {f g : Nat → Int32} {k : Nat} {x : Int32} (hg : g k = f k + x) (hn : ∀ j, j ≠ k → g j = f j) : ∀ {n : Nat}, k < n → jw_sum g n = jw_sum f n + x
  | 0, h => absurd h (by omega)
  | n + 1, h => by
    rw [jw_sum, jw_sum]
    by_cases e : k = n
    · subst e
      rw [hg, jw_sum_congr (fun j hj => hn j (by omega)), Int32.add_assoc]
    · rw [jw_sum_upd hg hn (by omega), hn n (by omega), Int32.add_assoc, Int32.add_assoc, Int32.add_comm x]
theorem jw_sum_0 : ∀ {n : Nat}, jw_sum (fun _ => 0) n = 0
  | 0 => rfl
  | n + 1 => by rw [jw_sum, jw_sum_0]; rfl
theorem jw_tally_sum {V : Nat → Nat} {w : Nat → Int32} : ∀ {p : Nat}, (∀ q, q < p → V q < 32) → jw_sum (jw_tally V w p) 32 = jw_wsum w p
  | 0, _ => jw_sum_0
  | p + 1, h => by
    rw [jw_tally, jw_wsum, ← jw_tally_sum (fun q hq => h q (by omega))]
    exact jw_sum_upd (jg_us _ _ _) (fun j hj => jg_un hj) (h p (by omega))
theorem jw_tally_len {V : Nat → Nat} {w : Nat → Int32} : ∀ {p : Nat}, (∀ q, q < p → V q < 32) → jw_sum (fun l => jw_tally V w p l * nI l) 32 = jw_wlen V w p
  | 0, _ => by
    rw [jw_wlen]
    exact (jw_sum_congr (g := fun _ => 0) (fun j _ => Int32.zero_mul)).trans jw_sum_0
  | p + 1, h => by
    rw [jw_wlen, ← jw_tally_len (fun q hq => h q (by omega))]
    refine jw_sum_upd (k := V p) ?_ (fun j hj => ?_) (h p (by omega))
    · show upd _ (V p) _ (V p) * nI (V p) = _
      rw [jg_us, Int32.add_mul]
    · show upd _ (V p) _ j * nI j = _
      rw [jg_un hj]
theorem jz_ws {np nm : Nat} {a : jw_A} (hA : jz_A np nm a) : ∀ {p : Nat}, p ≤ np → ∃ s : Nat, jw_wsum (fun p => a (7 + p)) p = nI s ∧ s ≤ 9 * p
  | 0, _ => ⟨0, rfl, by omega⟩
  | p + 1, h => by
    obtain ⟨s, e, h1⟩ := jz_ws hA (p := p) (by omega)
    obtain ⟨v, e2, h2⟩ := hA.2 p (by omega)
    exact ⟨s + v, by rw [jw_wsum, e, e2, nI_add], by omega⟩
def jw_mx (T : Nat → Int32) : Nat → Nat → Nat → Nat
  | 0, _, best => best
  | n + 1, l, best => jw_mx T n (l + 1) (if T l ≤ T best then best else l)
theorem jw_pick_mx {way all : Int32} {T : Nat → Int32} (hw : ¬ way = 1) : ∀ {n l : Nat} {u : Int32} {best : Nat}, jw_pick way all T n l u best = jw_mx T n l best
  | 0, _, _, _ => rfl
  | n + 1, l, u, best => by rw [jw_pick, jw_mx, if_neg (fun z => hw z.1)]; exact jw_pick_mx hw
theorem jw_mx_1 {T : Nat → Int32} {n : Nat} : jw_mx T (n + 1) 0 0 = jw_mx T n 1 0 := by
  rw [jw_mx, ite_self]
set_option maxHeartbeats 800000 in
set_option maxRecDepth 100000 in
theorem lp_mostVoted {d n0 : Nat} {Q : Option jx_V → jx_H → Prop} {h : jx_H} {T : Nat → Int32} (l best : Nat) (hT : ∀ j, j < 32 → jh_I h 38 0 j = T j) (hl : l ≤ 32) (hb : best < 32) (hQ : Q (some (jv_i (nI (jw_mx T (32 - l) l best)))) h) : jx_W (jm_Poll_mostVoted, d, 0, 0, false, 0, n0) Q 0 0 4 [some (jv_r 5 0), some (jv_i (nI best)), some (jv_i (nI l))] [] h := by
  refine jr_iload rfl rfl ?_
  refine jr_ic rfl ?_
  refine jr_icmp_ge rfl (fun c6 => ?_) (fun c6 => ?_)
  · refine jr_iload rfl rfl ?_
    refine jr_iret rfl rfl (Nat.zero_le _) (Nat.zero_le _) ?_
    have hx1 : 32 ≤ l := jn_le (show nI 32 ≤ nI l from c6) (by omega) (by omega)
    rw [show 32 - l = 0 by omega] at hQ
    exact hQ
  · have hl1 : l < 32 := jn_nle (show ¬ nI 32 ≤ nI l from c6) (by omega) (by omega)
    have hn : 32 - l = (32 - (l + 1)) + 1 := by omega
    refine jr_aload rfl rfl ?_
    refine jr_getR rfl rfl rfl rfl (Or.inl rfl) ?_
    refine jr_iload rfl rfl ?_
    refine jr_iald (len := 32) rfl rfl rfl (by omega) ?_
    refine jr_aload rfl rfl ?_
    refine jr_getR rfl rfl rfl rfl (Or.inl rfl) ?_
    refine jr_iload rfl rfl ?_
    refine jr_iald (len := 32) rfl rfl rfl (by omega) ?_
    rw [show jh_I h 38 0 l = T l from hT l (by omega), show jh_I h 38 0 best = T best from hT best (by omega)]
    refine jr_icmp_le rfl (fun c15 => ?_) (fun c15 => ?_)
    · refine jr_iinc2 rfl rfl ?_
      refine jr_goto rfl ?_
      rw [hn, jw_mx, if_pos c15] at hQ
      rw [jn_S]
      exact lp_mostVoted (l + 1) best hT (by omega) hb hQ
    · refine jr_iload rfl rfl ?_
      refine jr_ist1 rfl rfl ?_
      refine jr_iinc2 rfl rfl ?_
      refine jr_goto rfl ?_
      rw [hn, jw_mx, if_neg c15] at hQ
      rw [jn_S]
      exact lp_mostVoted (l + 1) l hT (by omega) (by omega) hQ
termination_by 32 - l
decreasing_by all_goals omega

set_option maxHeartbeats 800000 in
set_option maxRecDepth 100000 in
theorem ev_mostVoted {d : Nat} {h : jx_H} {Q : Option jx_V → jx_H → Prop} {T : Nat → Int32} (hT : ∀ j, j < 32 → jh_I h 38 0 j = T j) (hQ : Q (some (jv_i (nI (jw_mx T 31 1 0)))) h) : jx_Ev jm_Poll_mostVoted (d) 0 0 false 0 [jv_r 5 0] h Q := by
  show jx_W (jm_Poll_mostVoted, d, 0, 0, false, 0, _) Q 0 0 0 [some (jv_r 5 0), none, none] [] _
  refine jr_ic rfl ?_
  refine jr_ist1 rfl rfl ?_
  refine jr_ic rfl ?_
  refine jr_ist2 rfl rfl ?_
  exact lp_mostVoted 1 0 hT (by omega) (by omega) hQ

set_option maxHeartbeats 800000 in
set_option maxRecDepth 100000 in
theorem lp_middle {d n0 : Nat} {Q : Option jx_V → jx_H → Prop} {h : jx_H} {T : Nat → Int32} {x : Int32} (l best : Nat) (hT : ∀ j, j < 32 → jh_I h 38 0 j = T j) (hl : l ≤ 32) (hx : 0 < l → 2 * jw_sum T l < x) (hx2 : ¬ 2 * jw_sum T 32 < x) (hQ : Q (some (jv_i (nI (jw_pick 1 x T (32 - l) l (jw_sum T l) best)))) h) : jx_W (jm_Poll_middle, d, 0, 0, false, 0, n0) Q 0 0 4 [some (jv_r 5 0), some (jv_i x), some (jv_i (jw_sum T l)), some (jv_i (nI l))] [] h := by
  refine jr_iload rfl rfl ?_
  refine jr_ic rfl ?_
  refine jr_icmp_ge rfl (fun c6 => ?_) (fun c6 => ?_)
  · refine jr_ic rfl ?_
    refine jr_iret rfl rfl (Nat.zero_le _) (Nat.zero_le _) ?_
    have hx1 : 32 ≤ l := jn_le (show nI 32 ≤ nI l from c6) (by omega) (by omega)
    obtain rfl : l = 32 := by omega
    exact absurd (hx (by omega)) hx2
  · have hl1 : l < 32 := jn_nle (show ¬ nI 32 ≤ nI l from c6) (by omega) (by omega)
    have hn : 32 - l = (32 - (l + 1)) + 1 := by omega
    refine jr_iload rfl rfl ?_
    refine jr_aload rfl rfl ?_
    refine jr_getR rfl rfl rfl rfl (Or.inl rfl) ?_
    refine jr_iload rfl rfl ?_
    refine jr_iald (len := 32) rfl rfl rfl (by omega) ?_
    rw [show jh_I h 38 0 l = T l from hT l (by omega)]
    refine jr_iadd rfl ?_
    refine jr_ist2 rfl rfl ?_
    refine jr_ic rfl ?_
    refine jr_iload rfl rfl ?_
    refine jr_imul rfl ?_
    refine jr_iload rfl rfl ?_
    refine jr_icmp_lt rfl (fun c18 => ?_) (fun c18 => ?_)
    · refine jr_iinc3 rfl rfl ?_
      refine jr_goto rfl ?_
      rw [hn, jw_pick, if_neg (fun z => z.2 c18)] at hQ
      rw [jn_S]
      exact lp_middle (l + 1) _ hT (by omega) (fun _ => c18) hx2 hQ
    · refine jr_iload rfl rfl ?_
      refine jr_iret rfl rfl (Nat.zero_le _) (Nat.zero_le _) ?_
      rw [hn, jw_pick, if_pos ⟨rfl, c18⟩] at hQ
      exact hQ
termination_by 32 - l
decreasing_by all_goals omega

set_option maxHeartbeats 800000 in
set_option maxRecDepth 100000 in
theorem ev_middle {d : Nat} {h : jx_H} {Q : Option jx_V → jx_H → Prop} {T : Nat → Int32} {x : Int32} (hT : ∀ j, j < 32 → jh_I h 38 0 j = T j) (hx2 : ¬ 2 * jw_sum T 32 < x) (hQ : Q (some (jv_i (nI (jw_pick 1 x T 32 0 0 0)))) h) : jx_Ev jm_Poll_middle (d) 0 0 false 0 [jv_r 5 0, jv_i x] h Q := by
  show jx_W (jm_Poll_middle, d, 0, 0, false, 0, _) Q 0 0 0 [some (jv_r 5 0), some (jv_i x), none, none] [] _
  refine jr_ic rfl ?_
  refine jr_ist2 rfl rfl ?_
  refine jr_ic rfl ?_
  refine jr_ist3 rfl rfl ?_
  exact lp_middle 0 0 hT (by omega) (fun z => absurd z (by omega)) hx2 hQ

set_option maxHeartbeats 800000 in
set_option maxRecDepth 100000 in
theorem lp_mean {d n0 : Nat} {Q : Option jx_V → jx_H → Prop} {h : jx_H} {T : Nat → Int32} {x : Int32} (l : Nat) (hT : ∀ j, j < 32 → jh_I h 38 0 j = T j) (hl : l ≤ 32) (hx : 0 < x) (hQ : Q (some (jv_i (jw_sum (fun l => T l * nI l) 32 / x))) h) : jx_W (jm_Poll_mean, d, 0, 0, false, 0, n0) Q 0 0 4 [some (jv_r 5 0), some (jv_i x), some (jv_i (jw_sum (fun l => T l * nI l) l)), some (jv_i (nI l))] [] h := by
  refine jr_iload rfl rfl ?_
  refine jr_ic rfl ?_
  refine jr_icmp_ge rfl (fun c6 => ?_) (fun c6 => ?_)
  · have hx1 : 32 ≤ l := jn_le (show nI 32 ≤ nI l from c6) (by omega) (by omega)
    obtain rfl : l = 32 := by omega
    refine jr_iload rfl rfl ?_
    refine jr_if_le rfl (fun z => absurd z (Int32.not_le.mpr hx)) (fun _ => ?_)
    refine jr_iload rfl rfl ?_
    refine jr_iload rfl rfl ?_
    refine jr_idiv rfl (fun z => absurd (z ▸ hx) (by decide)) ?_
    refine jr_goto rfl ?_
    refine jr_iret rfl rfl (Nat.zero_le _) (Nat.zero_le _) ?_
    exact hQ
  · have hl1 : l < 32 := jn_nle (show ¬ nI 32 ≤ nI l from c6) (by omega) (by omega)
    refine jr_iload rfl rfl ?_
    refine jr_aload rfl rfl ?_
    refine jr_getR rfl rfl rfl rfl (Or.inl rfl) ?_
    refine jr_iload rfl rfl ?_
    refine jr_iald (len := 32) rfl rfl rfl (by omega) ?_
    rw [show jh_I h 38 0 l = T l from hT l (by omega)]
    refine jr_iload rfl rfl ?_
    refine jr_imul rfl ?_
    refine jr_iadd rfl ?_
    refine jr_ist2 rfl rfl ?_
    refine jr_iinc3 rfl rfl ?_
    refine jr_goto rfl ?_
    rw [jn_S]
    exact lp_mean (l + 1) hT (by omega) hx hQ
termination_by 32 - l
decreasing_by all_goals omega

set_option maxHeartbeats 800000 in
set_option maxRecDepth 100000 in
theorem ev_mean {d : Nat} {h : jx_H} {Q : Option jx_V → jx_H → Prop} {T : Nat → Int32} {x : Int32} (hT : ∀ j, j < 32 → jh_I h 38 0 j = T j) (hx : 0 < x) (hQ : Q (some (jv_i (jw_sum (fun l => T l * nI l) 32 / x))) h) : jx_Ev jm_Poll_mean (d) 0 0 false 0 [jv_r 5 0, jv_i x] h Q := by
  show jx_W (jm_Poll_mean, d, 0, 0, false, 0, _) Q 0 0 0 [some (jv_r 5 0), some (jv_i x), none, none] [] _
  refine jr_ic rfl ?_
  refine jr_ist2 rfl rfl ?_
  refine jr_ic rfl ?_
  refine jr_ist3 rfl rfl ?_
  exact lp_mean 0 hT (by omega) hx hQ

set_option maxHeartbeats 800000 in
set_option maxRecDepth 100000 in
theorem lp_leastTMB {d n0 : Nat} {Q : Option jx_V → jx_H → Prop} {h : jx_H} {M : Nat → Int32} (l : Nat) (hM : ∀ j, j < 32 → jy_u (jh_I h 5 0 6) j = M j) (hex : ∃ j, l ≤ j ∧ j < 32 ∧ ¬ M j = 0) (hQ : Q (some (jv_i (nI (jw_lm M (32 - l) l)))) h) : jx_W (jm_Poll_leastThatMayBe, d, 0, 0, false, 0, n0) Q 0 0 2 [some (jv_r 5 0), some (jv_i (nI l))] [] h := by
  have hl1 : l < 32 := by obtain ⟨j, h1, h2, -⟩ := hex; omega
  have hn : 32 - l = (32 - (l + 1)) + 1 := by omega
  have hMl := hM l hl1
  refine jr_iload rfl rfl ?_
  refine jr_ic rfl ?_
  refine jr_icmp_ge rfl (fun z => absurd z (nI_ge (a := l) (b := 32) hl1 (by decide))) (fun _ => ?_)
  refine jr_aload rfl rfl ?_
  refine jr_getI rfl rfl ?_
  refine jr_iload rfl rfl ?_
  refine jr_iushr rfl ?_
  refine jr_ic rfl ?_
  refine jr_iand rfl ?_
  refine jr_if_eq rfl (fun c11 => ?_) (fun c11 => ?_)
  · refine jr_iinc1 rfl rfl ?_
    refine jr_goto rfl ?_
    rw [jn_S]
    have c11' : M l = 0 := hMl.symm.trans c11
    refine lp_leastTMB (l + 1) hM ?_ ?_
    · obtain ⟨j, h1, h2, h3⟩ := hex
      refine ⟨j, ?_, h2, h3⟩
      rcases Nat.eq_or_lt_of_le h1 with e | e
      · rw [e] at c11'; exact absurd c11' h3
      · omega
    · rw [hn, jw_lm, if_pos c11'] at hQ; exact hQ
  · refine jr_iload rfl rfl ?_
    refine jr_iret rfl rfl (Nat.zero_le _) (Nat.zero_le _) ?_
    rw [hn, jw_lm, if_neg (show ¬ M l = 0 from fun z => c11 (hMl.trans z))] at hQ
    exact hQ
termination_by 32 - l
decreasing_by all_goals omega

set_option maxHeartbeats 800000 in
set_option maxRecDepth 100000 in
theorem ev_leastTMB {d : Nat} {h : jx_H} {Q : Option jx_V → jx_H → Prop} {M : Nat → Int32} (hM : ∀ j, j < 32 → jy_u (jh_I h 5 0 6) j = M j) (hex : ∃ j, j < 32 ∧ ¬ M j = 0) (hQ : Q (some (jv_i (nI (jw_lm M 32 0)))) h) : jx_Ev jm_Poll_leastThatMayBe (d) 0 0 false 0 [jv_r 5 0] h Q := by
  show jx_W (jm_Poll_leastThatMayBe, d, 0, 0, false, 0, _) Q 0 0 0 [some (jv_r 5 0), none] [] _
  refine jr_ic rfl ?_
  refine jr_ist1 rfl rfl ?_
  obtain ⟨j, h1, h2⟩ := hex
  exact lp_leastTMB 0 hM ⟨j, Nat.zero_le _, h1, h2⟩ hQ

set_option maxHeartbeats 800000 in
set_option maxRecDepth 100000 in
theorem lp_tally39 {d n0 : Nat} {Q : Option jx_V → jx_H → Prop} {h hm : jx_H} {b c r : Nat} {V : Nat → Nat} {S0 : Nat → Nat → Int32} (S : Nat → Nat → Int32) (p : Nat) (hw : jz_W hm b) (hA : jy_A h c r (jA hm)) (hR : jy_R h r hm b) (hmo : ¬ jC hm b 0 0 = 0) (hV : ∀ p, p < jz_np hm b → S0 39 p = nI (V p) ∧ V p < 32) (hp : p ≤ jz_np hm b) (hfr : ∀ x, x ≠ 38 → S x = S0 x) (hT : ∀ j, j < 32 → S 38 j = jw_tally V (fun p => jA hm (7 + p)) p j) (k : ∀ S' : Nat → Nat → Int32, (∀ x, x ≠ 38 → S' x = S0 x) → (∀ j, j < 32 → S' 38 j = jw_tally V (fun p => jA hm (7 + p)) (jz_np hm b) j) → Q (some (jv_i (jw_wsum (fun p => jA hm (7 + p)) (jz_np hm b)))) (jP h S' (c + 1)))  : jx_W (jm_Poll_fillTally, d + 1, 0, 0, false, 0, n0) Q 0 0 16 [some (jv_r 5 0), some (jv_r 39 0), some (jv_i (jw_wsum (fun p => jA hm (7 + p)) p)), some (jv_i (nI p))] [] (jP h S (c + 1)) := by
  have hnp := hw.2.2.1.2.1
  have hnp5 := hnp.2
  refine jr_iload rfl rfl ?_
  refine jr_aload rfl rfl ?_
  refine jr_getM rfl rfl rfl rfl rfl ?_
  refine jr_getM rfl rfl rfl rfl hA.1 ?_
  refine jr_getI rfl rfl ?_
  rw [show jh_I (jP h S (c + 1)) 7 r 3 = nI (jz_np hm b) from hR.2.1.trans hnp.1]
  refine jr_icmp_ge rfl (fun c21 => ?_) (fun c21 => ?_)
  · refine jr_iload rfl rfl ?_
    refine jr_iret rfl rfl (Nat.zero_le _) (Nat.zero_le _) ?_
    have hp2 : p = jz_np hm b := by have := jn_le (show nI (jz_np hm b) ≤ nI p from c21) (by omega) (by omega); omega
    subst hp2
    exact k S hfr hT
  · have hp1 : p < jz_np hm b := jn_nle (show ¬ nI (jz_np hm b) ≤ nI p from c21) (by omega) (by omega)
    obtain ⟨hv1, hv2⟩ := hV p hp1
    have hv3 : S 39 p = nI (V p) := (congrFun (hfr 39 (by decide)) p).trans hv1
    refine jr_iload rfl rfl ?_
    refine jr_aload rfl rfl ?_
    refine jr_alen (so := 1) (len := 5) rfl rfl rfl rfl ?_
    refine jr_icmp_ge rfl (fun z => absurd z (nI_ge (a := p) (b := 5) (by omega) (by decide))) (fun _ => ?_)
    refine jr_iload rfl rfl ?_
    refine jr_ic rfl ?_
    refine jr_icmp_ge rfl (fun z => absurd z (nI_ge (a := p) (b := 5) (by omega) (by decide))) (fun _ => ?_)
    refine jr_aload rfl rfl ?_
    refine jr_iload rfl rfl ?_
    refine jr_iald (len := 5) rfl rfl rfl (by omega) ?_
    rw [show jh_I (jP h S (c + 1)) 39 0 p = nI (V p) from hv3]
    refine jr_cn1 (mc' := 0) (ms' := 0) rfl jm_JV_isLength_n jm_JV_isLength_f rfl rfl (by first | exact Or.inl ⟨rfl, rfl⟩ | exact Or.inr ⟨rfl, rfl⟩) rfl rfl rfl rfl (Nat.zero_le _) (Nat.zero_le _) ?_
    show jx_W (jm_JV_isLength, _, _, _, _, _, _) _ 0 0 0 [some _] [] _
    refine jr_iload rfl rfl ?_
    refine jr_if_lt rfl (fun z => absurd z (nI_pos (by omega))) (fun _ => ?_)
    refine jr_iload rfl rfl ?_
    refine jr_ic rfl ?_
    refine jr_icmp_gt rfl (fun z => absurd z (nI_nlt (a := 31) (b := V p) (by omega) (by omega))) (fun _ => ?_)
    refine jr_ic rfl ?_
    refine jr_goto rfl ?_
    refine jr_zret rfl rfl rfl (Nat.zero_le _) (Nat.zero_le _) ?_
    refine jr_if_eq rfl (fun z => absurd z (by decide)) (fun _ => ?_)
    refine jr_aload rfl rfl ?_
    refine jr_getR rfl rfl rfl rfl (Or.inl rfl) ?_
    refine jr_aload rfl rfl ?_
    refine jr_iload rfl rfl ?_
    refine jr_iald (len := 5) rfl rfl rfl (by omega) ?_
    rw [show jh_I (jP h S (c + 1)) 39 0 p = nI (V p) from hv3]
    refine jr_dup2 rfl ?_
    refine jr_iald (len := 32) rfl rfl rfl (by omega) ?_
    refine jr_aload rfl rfl ?_
    refine jr_getM rfl rfl rfl rfl rfl ?_
    refine jr_getR rfl rfl rfl rfl (Or.inl rfl) ?_
    refine jr_iload rfl rfl ?_
    refine jr_iald (len := 5) rfl rfl rfl (by omega) ?_
    rw [show jh_I (jP h S (c + 1)) 33 c p = jA hm (7 + p) from (hA.2.2.2.1 p (by omega)).2 (by rw [jy_npR hR]; omega)]
    refine jr_iadd rfl ?_
    refine jr_iast (len := 32) rfl rfl rfl (by omega) ?_
    refine jr_iload rfl rfl ?_
    refine jr_aload rfl rfl ?_
    refine jr_getM rfl rfl rfl rfl rfl ?_
    refine jr_getR rfl rfl rfl rfl (Or.inl rfl) ?_
    refine jr_iload rfl rfl ?_
    refine jr_iald (len := 5) rfl rfl rfl (by omega) ?_
    refine jr_iadd rfl ?_
    refine jr_ist2 rfl rfl ?_
    refine jr_iinc3 rfl rfl ?_
    refine jr_goto rfl ?_
    simp only [jP_38, jP_r38]
    rw [jn_S]
    rw [show jh_I (jP h (fun x => if x = 38 then upd (S 38) (V p) (S 38 (V p) + jA hm (7 + p)) else S x) (c + 1)) 33 c p = jA hm (7 + p) from (hA.2.2.2.1 p (by omega)).2 (by rw [jy_npR hR]; omega)]
    refine lp_tally39 _ (p + 1) hw hA hR hmo hV (by omega) (fun x hx => (if_neg hx).trans (hfr x hx)) (fun j hj => ?_) k
    show upd (S 38) (V p) (S 38 (V p) + jA hm (7 + p)) j = upd (jw_tally V (fun p => jA hm (7 + p)) p) (V p) (jw_tally V (fun p => jA hm (7 + p)) p (V p) + jA hm (7 + p)) j
    rw [hT (V p) hv2]
    by_cases e : j = V p
    · rw [e, jg_us, jg_us]
    · rw [jg_un e, jg_un e, hT j hj]
termination_by jz_np hm b - p
decreasing_by all_goals omega

set_option maxHeartbeats 800000 in
set_option maxRecDepth 100000 in
theorem lp_tallyz39 {d n0 : Nat} {Q : Option jx_V → jx_H → Prop} {h hm : jx_H} {b c r : Nat} {V : Nat → Nat} {S0 : Nat → Nat → Int32} (S : Nat → Nat → Int32) (l : Nat) (hw : jz_W hm b) (hA : jy_A h c r (jA hm)) (hR : jy_R h r hm b) (hmo : ¬ jC hm b 0 0 = 0) (hV : ∀ p, p < jz_np hm b → S0 39 p = nI (V p) ∧ V p < 32) (hl : l ≤ 32) (hfr : ∀ x, x ≠ 38 → S x = S0 x) (hT : ∀ j, j < l → S 38 j = 0) (k : ∀ S' : Nat → Nat → Int32, (∀ x, x ≠ 38 → S' x = S0 x) → (∀ j, j < 32 → S' 38 j = jw_tally V (fun p => jA hm (7 + p)) (jz_np hm b) j) → Q (some (jv_i (jw_wsum (fun p => jA hm (7 + p)) (jz_np hm b)))) (jP h S' (c + 1)))  : jx_W (jm_Poll_fillTally, d + 1, 0, 0, false, 0, n0) Q 0 0 2 [some (jv_r 5 0), some (jv_r 39 0), some (jv_i (nI l)), none] [] (jP h S (c + 1)) := by
  refine jr_iload rfl rfl ?_
  refine jr_ic rfl ?_
  refine jr_icmp_ge rfl (fun c4 => ?_) (fun c4 => ?_)
  · refine jr_ic rfl ?_
    refine jr_ist2 rfl rfl ?_
    refine jr_ic rfl ?_
    refine jr_ist3 rfl rfl ?_
    have hx1 : 32 ≤ l := jn_le (show nI 32 ≤ nI l from c4) (by omega) (by omega)
    exact lp_tally39 S 0 hw hA hR hmo hV (Nat.zero_le _) hfr (fun j hj => hT j (by omega)) k
  · have hl1 : l < 32 := jn_nle (show ¬ nI 32 ≤ nI l from c4) (by omega) (by omega)
    refine jr_aload rfl rfl ?_
    refine jr_getR rfl rfl rfl rfl (Or.inl rfl) ?_
    refine jr_iload rfl rfl ?_
    refine jr_ic rfl ?_
    refine jr_iast (len := 32) rfl rfl rfl (by omega) ?_
    refine jr_iinc2 rfl rfl ?_
    refine jr_goto rfl ?_
    simp only [jP_38, jP_r38]
    rw [jn_S]
    refine lp_tallyz39 _ (l + 1) hw hA hR hmo hV (by omega) (fun x hx => (if_neg hx).trans (hfr x hx)) (fun j hj => ?_) k
    show upd (S 38) l 0 j = 0
    by_cases e : j = l
    · rw [e, jg_us]
    · rw [jg_un e, hT j (by omega)]
termination_by 32 - l
decreasing_by all_goals omega

set_option maxHeartbeats 800000 in
set_option maxRecDepth 100000 in
theorem ev_tally39 {d : Nat} {h : jx_H} {Q : Option jx_V → jx_H → Prop} {hm : jx_H} {b c r : Nat} {V : Nat → Nat} {S0 : Nat → Nat → Int32} (hw : jz_W hm b) (hA : jy_A h c r (jA hm)) (hR : jy_R h r hm b) (hmo : ¬ jC hm b 0 0 = 0) (hV : ∀ p, p < jz_np hm b → S0 39 p = nI (V p) ∧ V p < 32) (k : ∀ S' : Nat → Nat → Int32, (∀ x, x ≠ 38 → S' x = S0 x) → (∀ j, j < 32 → S' 38 j = jw_tally V (fun p => jA hm (7 + p)) (jz_np hm b) j) → Q (some (jv_i (jw_wsum (fun p => jA hm (7 + p)) (jz_np hm b)))) (jP h S' (c + 1)))  : jx_Ev jm_Poll_fillTally (d + 1) 0 0 false 0 [jv_r 5 0, jv_r 39 0] (jP h S0 (c + 1)) Q := by
  show jx_W (jm_Poll_fillTally, d + 1, 0, 0, false, 0, _) Q 0 0 0 [some (jv_r 5 0), some (jv_r 39 0), none, none] [] _
  refine jr_ic rfl ?_
  refine jr_ist2 rfl rfl ?_
  exact lp_tallyz39 S0 0 hw hA hR hmo hV (by omega) (fun _ _ => rfl) (fun j hj => absurd hj (by omega)) k

set_option maxHeartbeats 800000 in
set_option maxRecDepth 100000 in
theorem ev_outcome39 {d : Nat} {h : jx_H} {Q : Option jx_V → jx_H → Prop} {hm : jx_H} {b c r : Nat} {V : Nat → Nat} {S0 : Nat → Nat → Int32} (hw : jz_W hm b) (hA : jy_A h c r (jA hm)) (hR : jy_R h r hm b) (hmo : ¬ jC hm b 0 0 = 0) (hM : jy_Pm S0 hm b) (hV : ∀ p, p < jz_np hm b → S0 39 p = nI (V p) ∧ V p < 32) (k : ∀ S' : Nat → Nat → Int32, (∀ x, x ≠ 38 → S' x = S0 x) → Q (some (jv_i (jw_count (jw_mayb hm b) (jC hm b 15 0) (jz_np hm b) V (fun p => jA hm (7 + p))))) (jP h S' (c + 1)))  : jx_Ev jm_Poll_outcome (d + 2) 0 0 false 0 [jv_r 5 0, jv_r 39 0] (jP h S0 (c + 1)) Q := by
  show jx_W (jm_Poll_outcome, d + 2, 0, 0, false, 0, _) Q 0 0 0 [some (jv_r 5 0), some (jv_r 39 0), none] [] _
  obtain ⟨sm, hsm, hsm2⟩ := jz_ws hw.2.2.2 (p := jz_np hm b) (Nat.le_refl _)
  have hnp5 := hw.2.2.1.2.1.2
  have hV32 : ∀ q, q < jz_np hm b → V q < 32 := fun q hq => (hV q hq).2
  refine jr_aload rfl rfl ?_
  refine jr_aload rfl rfl ?_
  refine jr_cv1 (mc' := 0) (ms' := 0) rfl jm_Poll_fillTally_n jm_Poll_fillTally_f rfl rfl rfl rfl rfl rfl rfl (Nat.zero_le _) (Nat.zero_le _) ?_
  refine ev_tally39 hw hA hR hmo hV (fun S1 f1 hT1 => ?_)
  refine jr_ist2 rfl rfl ?_
  rw [hsm]
  refine jr_iload rfl rfl ?_
  refine jr_if_gt rfl (fun c5 => ?_) (fun c5 => ?_)
  · have hs0 : ¬ sm = 0 := by
      intro z; rw [z] at c5; exact absurd c5 (by decide)
    have hne : ¬ jw_wsum (fun p => jA hm (7 + p)) (jz_np hm b) = 0 := by rw [hsm]; exact nI_ne0 (by omega) (by omega)
    refine jr_aload rfl rfl ?_
    refine jr_getM rfl rfl rfl rfl rfl ?_
    refine jr_getM rfl rfl rfl rfl hA.1 ?_
    refine jr_getI rfl rfl ?_
    rw [show jh_I (jP h S1 (c + 1)) 7 r 9 = jC hm b 15 0 + 122 from hR.2.2.2.2.2.2.2.2.1]
    refine jr_lsw rfl ?_
    refine ⟨fun c13 => ?_, fun n13_123 => ?_⟩
    · refine jr_aload rfl rfl ?_
      refine jr_iload rfl rfl ?_
      refine jr_cv1 (mc' := 0) (ms' := 0) rfl jm_Poll_middle_n jm_Poll_middle_f rfl rfl rfl rfl rfl rfl rfl (Nat.zero_le _) (Nat.zero_le _) ?_
      refine ev_middle (T := jw_tally V (fun p => jA hm (7 + p)) (jz_np hm b)) (fun j hj => hT1 j hj) ?_ ?_
      · rw [jw_tally_sum hV32, hsm, show (2 : Int32) = nI 2 from rfl, pk_mul]; exact nI_nlt (by omega) (by omega)
      refine jr_iret rfl rfl (Nat.zero_le _) (Nat.zero_le _) ?_
      have hway : jC hm b 15 0 = 1 := by
        rcases hw.2.2.1.2.2.2.2.2.2.1 with e | e | e
        · rw [e] at c13; exact absurd c13 (by decide)
        · exact e
        · rw [e] at c13; exact absurd c13 (by decide)
      have := k S1 f1
      rw [jw_count, if_neg hne, if_neg (by rw [hway]; decide), hway, hsm] at this
      exact this
    · skip
      refine ⟨fun c13 => ?_, fun n13_124 => ?_⟩
      · refine jr_aload rfl rfl ?_
        refine jr_iload rfl rfl ?_
        refine jr_cv1 (mc' := 0) (ms' := 0) rfl jm_Poll_mean_n jm_Poll_mean_f rfl rfl rfl rfl rfl rfl rfl (Nat.zero_le _) (Nat.zero_le _) ?_
        refine ev_mean (T := jw_tally V (fun p => jA hm (7 + p)) (jz_np hm b)) (fun j hj => hT1 j hj) (by exact nI_lt (a := 0) (b := sm) (by omega) (by omega)) ?_
        refine jr_iret rfl rfl (Nat.zero_le _) (Nat.zero_le _) ?_
        have hway : jC hm b 15 0 = 2 := by
          rcases hw.2.2.1.2.2.2.2.2.2.1 with e | e | e
          · rw [e] at c13; exact absurd c13 (by decide)
          · rw [e] at c13; exact absurd c13 (by decide)
          · exact e
        have := k S1 f1
        rw [jw_count, if_neg hne, if_pos hway, hsm] at this
        rw [jw_tally_len hV32]
        exact this
      · skip
        refine jr_aload rfl rfl ?_
        refine jr_cv0 (mc' := 0) (ms' := 0) rfl jm_Poll_mostVoted_n jm_Poll_mostVoted_f rfl rfl rfl rfl rfl rfl rfl (Nat.zero_le _) (Nat.zero_le _) ?_
        refine ev_mostVoted (T := jw_tally V (fun p => jA hm (7 + p)) (jz_np hm b)) (fun j hj => hT1 j hj) ?_
        refine jr_iret rfl rfl (Nat.zero_le _) (Nat.zero_le _) ?_
        have hway : jC hm b 15 0 = 0 := by
          rcases hw.2.2.1.2.2.2.2.2.2.1 with e | e | e
          · exact e
          · rw [e] at n13_123; exact absurd (by decide) n13_123
          · rw [e] at n13_124; exact absurd (by decide) n13_124
        have := k S1 f1
        rw [jw_count, if_neg hne, if_neg (by rw [hway]; decide), hway, jw_pick_mx (by decide), jw_mx_1] at this
        exact this
  · refine jr_aload rfl rfl ?_
    refine jr_cv0 (mc' := 0) (ms' := 0) rfl jm_Poll_leastThatMayBe_n jm_Poll_leastThatMayBe_f rfl rfl rfl rfl rfl rfl rfl (Nat.zero_le _) (Nat.zero_le _) ?_
    refine ev_leastTMB (M := jw_mayb hm b) (fun j hj => (congrArg (fun z => jy_u (z 6) j) (f1 5 (by decide))).trans (hM j hj)) (jw_mayb_ex hw hmo) ?_
    refine jr_iret rfl rfl (Nat.zero_le _) (Nat.zero_le _) ?_
    have := k S1 f1
    rw [jw_count, if_pos ?_] at this
    · exact this
    · rw [hsm]
      have : ¬ nI 0 < nI sm := c5
      have := jn_nlt this (by omega) (by omega)
      rw [show sm = 0 by omega]; rfl

set_option maxHeartbeats 800000 in
set_option maxRecDepth 100000 in
theorem lp_tally43 {d n0 : Nat} {Q : Option jx_V → jx_H → Prop} {h hm : jx_H} {b c r : Nat} {V : Nat → Nat} {S0 : Nat → Nat → Int32} (S : Nat → Nat → Int32) (p : Nat) (hw : jz_W hm b) (hA : jy_A h c r (jA hm)) (hR : jy_R h r hm b) (hmo : ¬ jC hm b 0 0 = 0) (hV : ∀ p, p < jz_np hm b → S0 43 p = nI (V p) ∧ V p < 32) (hp : p ≤ jz_np hm b) (hfr : ∀ x, x ≠ 38 → S x = S0 x) (hT : ∀ j, j < 32 → S 38 j = jw_tally V (fun p => jA hm (7 + p)) p j) (k : ∀ S' : Nat → Nat → Int32, (∀ x, x ≠ 38 → S' x = S0 x) → (∀ j, j < 32 → S' 38 j = jw_tally V (fun p => jA hm (7 + p)) (jz_np hm b) j) → Q (some (jv_i (jw_wsum (fun p => jA hm (7 + p)) (jz_np hm b)))) (jP h S' (c + 1)))  : jx_W (jm_Poll_fillTally, d + 1, 0, 0, false, 0, n0) Q 0 0 16 [some (jv_r 5 0), some (jv_r 43 0), some (jv_i (jw_wsum (fun p => jA hm (7 + p)) p)), some (jv_i (nI p))] [] (jP h S (c + 1)) := by
  have hnp := hw.2.2.1.2.1
  have hnp5 := hnp.2
  refine jr_iload rfl rfl ?_
  refine jr_aload rfl rfl ?_
  refine jr_getM rfl rfl rfl rfl rfl ?_
  refine jr_getM rfl rfl rfl rfl hA.1 ?_
  refine jr_getI rfl rfl ?_
  rw [show jh_I (jP h S (c + 1)) 7 r 3 = nI (jz_np hm b) from hR.2.1.trans hnp.1]
  refine jr_icmp_ge rfl (fun c21 => ?_) (fun c21 => ?_)
  · refine jr_iload rfl rfl ?_
    refine jr_iret rfl rfl (Nat.zero_le _) (Nat.zero_le _) ?_
    have hp2 : p = jz_np hm b := by have := jn_le (show nI (jz_np hm b) ≤ nI p from c21) (by omega) (by omega); omega
    subst hp2
    exact k S hfr hT
  · have hp1 : p < jz_np hm b := jn_nle (show ¬ nI (jz_np hm b) ≤ nI p from c21) (by omega) (by omega)
    obtain ⟨hv1, hv2⟩ := hV p hp1
    have hv3 : S 43 p = nI (V p) := (congrFun (hfr 43 (by decide)) p).trans hv1
    refine jr_iload rfl rfl ?_
    refine jr_aload rfl rfl ?_
    refine jr_alen (so := 1) (len := 5) rfl rfl rfl rfl ?_
    refine jr_icmp_ge rfl (fun z => absurd z (nI_ge (a := p) (b := 5) (by omega) (by decide))) (fun _ => ?_)
    refine jr_iload rfl rfl ?_
    refine jr_ic rfl ?_
    refine jr_icmp_ge rfl (fun z => absurd z (nI_ge (a := p) (b := 5) (by omega) (by decide))) (fun _ => ?_)
    refine jr_aload rfl rfl ?_
    refine jr_iload rfl rfl ?_
    refine jr_iald (len := 5) rfl rfl rfl (by omega) ?_
    rw [show jh_I (jP h S (c + 1)) 43 0 p = nI (V p) from hv3]
    refine jr_cn1 (mc' := 0) (ms' := 0) rfl jm_JV_isLength_n jm_JV_isLength_f rfl rfl (by first | exact Or.inl ⟨rfl, rfl⟩ | exact Or.inr ⟨rfl, rfl⟩) rfl rfl rfl rfl (Nat.zero_le _) (Nat.zero_le _) ?_
    show jx_W (jm_JV_isLength, _, _, _, _, _, _) _ 0 0 0 [some _] [] _
    refine jr_iload rfl rfl ?_
    refine jr_if_lt rfl (fun z => absurd z (nI_pos (by omega))) (fun _ => ?_)
    refine jr_iload rfl rfl ?_
    refine jr_ic rfl ?_
    refine jr_icmp_gt rfl (fun z => absurd z (nI_nlt (a := 31) (b := V p) (by omega) (by omega))) (fun _ => ?_)
    refine jr_ic rfl ?_
    refine jr_goto rfl ?_
    refine jr_zret rfl rfl rfl (Nat.zero_le _) (Nat.zero_le _) ?_
    refine jr_if_eq rfl (fun z => absurd z (by decide)) (fun _ => ?_)
    refine jr_aload rfl rfl ?_
    refine jr_getR rfl rfl rfl rfl (Or.inl rfl) ?_
    refine jr_aload rfl rfl ?_
    refine jr_iload rfl rfl ?_
    refine jr_iald (len := 5) rfl rfl rfl (by omega) ?_
    rw [show jh_I (jP h S (c + 1)) 43 0 p = nI (V p) from hv3]
    refine jr_dup2 rfl ?_
    refine jr_iald (len := 32) rfl rfl rfl (by omega) ?_
    refine jr_aload rfl rfl ?_
    refine jr_getM rfl rfl rfl rfl rfl ?_
    refine jr_getR rfl rfl rfl rfl (Or.inl rfl) ?_
    refine jr_iload rfl rfl ?_
    refine jr_iald (len := 5) rfl rfl rfl (by omega) ?_
    rw [show jh_I (jP h S (c + 1)) 33 c p = jA hm (7 + p) from (hA.2.2.2.1 p (by omega)).2 (by rw [jy_npR hR]; omega)]
    refine jr_iadd rfl ?_
    refine jr_iast (len := 32) rfl rfl rfl (by omega) ?_
    refine jr_iload rfl rfl ?_
    refine jr_aload rfl rfl ?_
    refine jr_getM rfl rfl rfl rfl rfl ?_
    refine jr_getR rfl rfl rfl rfl (Or.inl rfl) ?_
    refine jr_iload rfl rfl ?_
    refine jr_iald (len := 5) rfl rfl rfl (by omega) ?_
    refine jr_iadd rfl ?_
    refine jr_ist2 rfl rfl ?_
    refine jr_iinc3 rfl rfl ?_
    refine jr_goto rfl ?_
    simp only [jP_38, jP_r38]
    rw [jn_S]
    rw [show jh_I (jP h (fun x => if x = 38 then upd (S 38) (V p) (S 38 (V p) + jA hm (7 + p)) else S x) (c + 1)) 33 c p = jA hm (7 + p) from (hA.2.2.2.1 p (by omega)).2 (by rw [jy_npR hR]; omega)]
    refine lp_tally43 _ (p + 1) hw hA hR hmo hV (by omega) (fun x hx => (if_neg hx).trans (hfr x hx)) (fun j hj => ?_) k
    show upd (S 38) (V p) (S 38 (V p) + jA hm (7 + p)) j = upd (jw_tally V (fun p => jA hm (7 + p)) p) (V p) (jw_tally V (fun p => jA hm (7 + p)) p (V p) + jA hm (7 + p)) j
    rw [hT (V p) hv2]
    by_cases e : j = V p
    · rw [e, jg_us, jg_us]
    · rw [jg_un e, jg_un e, hT j hj]
termination_by jz_np hm b - p
decreasing_by all_goals omega

set_option maxHeartbeats 800000 in
set_option maxRecDepth 100000 in
theorem lp_tallyz43 {d n0 : Nat} {Q : Option jx_V → jx_H → Prop} {h hm : jx_H} {b c r : Nat} {V : Nat → Nat} {S0 : Nat → Nat → Int32} (S : Nat → Nat → Int32) (l : Nat) (hw : jz_W hm b) (hA : jy_A h c r (jA hm)) (hR : jy_R h r hm b) (hmo : ¬ jC hm b 0 0 = 0) (hV : ∀ p, p < jz_np hm b → S0 43 p = nI (V p) ∧ V p < 32) (hl : l ≤ 32) (hfr : ∀ x, x ≠ 38 → S x = S0 x) (hT : ∀ j, j < l → S 38 j = 0) (k : ∀ S' : Nat → Nat → Int32, (∀ x, x ≠ 38 → S' x = S0 x) → (∀ j, j < 32 → S' 38 j = jw_tally V (fun p => jA hm (7 + p)) (jz_np hm b) j) → Q (some (jv_i (jw_wsum (fun p => jA hm (7 + p)) (jz_np hm b)))) (jP h S' (c + 1)))  : jx_W (jm_Poll_fillTally, d + 1, 0, 0, false, 0, n0) Q 0 0 2 [some (jv_r 5 0), some (jv_r 43 0), some (jv_i (nI l)), none] [] (jP h S (c + 1)) := by
  refine jr_iload rfl rfl ?_
  refine jr_ic rfl ?_
  refine jr_icmp_ge rfl (fun c4 => ?_) (fun c4 => ?_)
  · refine jr_ic rfl ?_
    refine jr_ist2 rfl rfl ?_
    refine jr_ic rfl ?_
    refine jr_ist3 rfl rfl ?_
    have hx1 : 32 ≤ l := jn_le (show nI 32 ≤ nI l from c4) (by omega) (by omega)
    exact lp_tally43 S 0 hw hA hR hmo hV (Nat.zero_le _) hfr (fun j hj => hT j (by omega)) k
  · have hl1 : l < 32 := jn_nle (show ¬ nI 32 ≤ nI l from c4) (by omega) (by omega)
    refine jr_aload rfl rfl ?_
    refine jr_getR rfl rfl rfl rfl (Or.inl rfl) ?_
    refine jr_iload rfl rfl ?_
    refine jr_ic rfl ?_
    refine jr_iast (len := 32) rfl rfl rfl (by omega) ?_
    refine jr_iinc2 rfl rfl ?_
    refine jr_goto rfl ?_
    simp only [jP_38, jP_r38]
    rw [jn_S]
    refine lp_tallyz43 _ (l + 1) hw hA hR hmo hV (by omega) (fun x hx => (if_neg hx).trans (hfr x hx)) (fun j hj => ?_) k
    show upd (S 38) l 0 j = 0
    by_cases e : j = l
    · rw [e, jg_us]
    · rw [jg_un e, hT j (by omega)]
termination_by 32 - l
decreasing_by all_goals omega

set_option maxHeartbeats 800000 in
set_option maxRecDepth 100000 in
theorem ev_tally43 {d : Nat} {h : jx_H} {Q : Option jx_V → jx_H → Prop} {hm : jx_H} {b c r : Nat} {V : Nat → Nat} {S0 : Nat → Nat → Int32} (hw : jz_W hm b) (hA : jy_A h c r (jA hm)) (hR : jy_R h r hm b) (hmo : ¬ jC hm b 0 0 = 0) (hV : ∀ p, p < jz_np hm b → S0 43 p = nI (V p) ∧ V p < 32) (k : ∀ S' : Nat → Nat → Int32, (∀ x, x ≠ 38 → S' x = S0 x) → (∀ j, j < 32 → S' 38 j = jw_tally V (fun p => jA hm (7 + p)) (jz_np hm b) j) → Q (some (jv_i (jw_wsum (fun p => jA hm (7 + p)) (jz_np hm b)))) (jP h S' (c + 1)))  : jx_Ev jm_Poll_fillTally (d + 1) 0 0 false 0 [jv_r 5 0, jv_r 43 0] (jP h S0 (c + 1)) Q := by
  show jx_W (jm_Poll_fillTally, d + 1, 0, 0, false, 0, _) Q 0 0 0 [some (jv_r 5 0), some (jv_r 43 0), none, none] [] _
  refine jr_ic rfl ?_
  refine jr_ist2 rfl rfl ?_
  exact lp_tallyz43 S0 0 hw hA hR hmo hV (by omega) (fun _ _ => rfl) (fun j hj => absurd hj (by omega)) k

set_option maxHeartbeats 800000 in
set_option maxRecDepth 100000 in
theorem ev_outcome43 {d : Nat} {h : jx_H} {Q : Option jx_V → jx_H → Prop} {hm : jx_H} {b c r : Nat} {V : Nat → Nat} {S0 : Nat → Nat → Int32} (hw : jz_W hm b) (hA : jy_A h c r (jA hm)) (hR : jy_R h r hm b) (hmo : ¬ jC hm b 0 0 = 0) (hM : jy_Pm S0 hm b) (hV : ∀ p, p < jz_np hm b → S0 43 p = nI (V p) ∧ V p < 32) (k : ∀ S' : Nat → Nat → Int32, (∀ x, x ≠ 38 → S' x = S0 x) → Q (some (jv_i (jw_count (jw_mayb hm b) (jC hm b 15 0) (jz_np hm b) V (fun p => jA hm (7 + p))))) (jP h S' (c + 1)))  : jx_Ev jm_Poll_outcome (d + 2) 0 0 false 0 [jv_r 5 0, jv_r 43 0] (jP h S0 (c + 1)) Q := by
  show jx_W (jm_Poll_outcome, d + 2, 0, 0, false, 0, _) Q 0 0 0 [some (jv_r 5 0), some (jv_r 43 0), none] [] _
  obtain ⟨sm, hsm, hsm2⟩ := jz_ws hw.2.2.2 (p := jz_np hm b) (Nat.le_refl _)
  have hnp5 := hw.2.2.1.2.1.2
  have hV32 : ∀ q, q < jz_np hm b → V q < 32 := fun q hq => (hV q hq).2
  refine jr_aload rfl rfl ?_
  refine jr_aload rfl rfl ?_
  refine jr_cv1 (mc' := 0) (ms' := 0) rfl jm_Poll_fillTally_n jm_Poll_fillTally_f rfl rfl rfl rfl rfl rfl rfl (Nat.zero_le _) (Nat.zero_le _) ?_
  refine ev_tally43 hw hA hR hmo hV (fun S1 f1 hT1 => ?_)
  refine jr_ist2 rfl rfl ?_
  rw [hsm]
  refine jr_iload rfl rfl ?_
  refine jr_if_gt rfl (fun c5 => ?_) (fun c5 => ?_)
  · have hs0 : ¬ sm = 0 := by
      intro z; rw [z] at c5; exact absurd c5 (by decide)
    have hne : ¬ jw_wsum (fun p => jA hm (7 + p)) (jz_np hm b) = 0 := by rw [hsm]; exact nI_ne0 (by omega) (by omega)
    refine jr_aload rfl rfl ?_
    refine jr_getM rfl rfl rfl rfl rfl ?_
    refine jr_getM rfl rfl rfl rfl hA.1 ?_
    refine jr_getI rfl rfl ?_
    rw [show jh_I (jP h S1 (c + 1)) 7 r 9 = jC hm b 15 0 + 122 from hR.2.2.2.2.2.2.2.2.1]
    refine jr_lsw rfl ?_
    refine ⟨fun c13 => ?_, fun n13_123 => ?_⟩
    · refine jr_aload rfl rfl ?_
      refine jr_iload rfl rfl ?_
      refine jr_cv1 (mc' := 0) (ms' := 0) rfl jm_Poll_middle_n jm_Poll_middle_f rfl rfl rfl rfl rfl rfl rfl (Nat.zero_le _) (Nat.zero_le _) ?_
      refine ev_middle (T := jw_tally V (fun p => jA hm (7 + p)) (jz_np hm b)) (fun j hj => hT1 j hj) ?_ ?_
      · rw [jw_tally_sum hV32, hsm, show (2 : Int32) = nI 2 from rfl, pk_mul]; exact nI_nlt (by omega) (by omega)
      refine jr_iret rfl rfl (Nat.zero_le _) (Nat.zero_le _) ?_
      have hway : jC hm b 15 0 = 1 := by
        rcases hw.2.2.1.2.2.2.2.2.2.1 with e | e | e
        · rw [e] at c13; exact absurd c13 (by decide)
        · exact e
        · rw [e] at c13; exact absurd c13 (by decide)
      have := k S1 f1
      rw [jw_count, if_neg hne, if_neg (by rw [hway]; decide), hway, hsm] at this
      exact this
    · skip
      refine ⟨fun c13 => ?_, fun n13_124 => ?_⟩
      · refine jr_aload rfl rfl ?_
        refine jr_iload rfl rfl ?_
        refine jr_cv1 (mc' := 0) (ms' := 0) rfl jm_Poll_mean_n jm_Poll_mean_f rfl rfl rfl rfl rfl rfl rfl (Nat.zero_le _) (Nat.zero_le _) ?_
        refine ev_mean (T := jw_tally V (fun p => jA hm (7 + p)) (jz_np hm b)) (fun j hj => hT1 j hj) (by exact nI_lt (a := 0) (b := sm) (by omega) (by omega)) ?_
        refine jr_iret rfl rfl (Nat.zero_le _) (Nat.zero_le _) ?_
        have hway : jC hm b 15 0 = 2 := by
          rcases hw.2.2.1.2.2.2.2.2.2.1 with e | e | e
          · rw [e] at c13; exact absurd c13 (by decide)
          · rw [e] at c13; exact absurd c13 (by decide)
          · exact e
        have := k S1 f1
        rw [jw_count, if_neg hne, if_pos hway, hsm] at this
        rw [jw_tally_len hV32]
        exact this
      · skip
        refine jr_aload rfl rfl ?_
        refine jr_cv0 (mc' := 0) (ms' := 0) rfl jm_Poll_mostVoted_n jm_Poll_mostVoted_f rfl rfl rfl rfl rfl rfl rfl (Nat.zero_le _) (Nat.zero_le _) ?_
        refine ev_mostVoted (T := jw_tally V (fun p => jA hm (7 + p)) (jz_np hm b)) (fun j hj => hT1 j hj) ?_
        refine jr_iret rfl rfl (Nat.zero_le _) (Nat.zero_le _) ?_
        have hway : jC hm b 15 0 = 0 := by
          rcases hw.2.2.1.2.2.2.2.2.2.1 with e | e | e
          · exact e
          · rw [e] at n13_123; exact absurd (by decide) n13_123
          · rw [e] at n13_124; exact absurd (by decide) n13_124
        have := k S1 f1
        rw [jw_count, if_neg hne, if_neg (by rw [hway]; decide), hway, jw_pick_mx (by decide), jw_mx_1] at this
        exact this
  · refine jr_aload rfl rfl ?_
    refine jr_cv0 (mc' := 0) (ms' := 0) rfl jm_Poll_leastThatMayBe_n jm_Poll_leastThatMayBe_f rfl rfl rfl rfl rfl rfl rfl (Nat.zero_le _) (Nat.zero_le _) ?_
    refine ev_leastTMB (M := jw_mayb hm b) (fun j hj => (congrArg (fun z => jy_u (z 6) j) (f1 5 (by decide))).trans (hM j hj)) (jw_mayb_ex hw hmo) ?_
    refine jr_iret rfl rfl (Nat.zero_le _) (Nat.zero_le _) ?_
    have := k S1 f1
    rw [jw_count, if_pos ?_] at this
    · exact this
    · rw [hsm]
      have : ¬ nI 0 < nI sm := c5
      have := jn_nlt this (by omega) (by omega)
      rw [show sm = 0 by omega]; rfl

