abbrev jw_L (hm : jx_H) (b : Nat) (a0 : jw_A) (k : Nat) : Int32 := jw_counted (jw_h hm (jw_nxs hm b k a0)) b
def jw_al (L : Nat → Int32) : Nat → Nat → Nat → Int32
  | 0, _, _ => 1
  | n + 1, p, q => if L p = L q then jw_al L n (p + 1) (q + 1) else 0
/-- the first earlier year that is alike -/
def jw_ax (L : Nat → Int32) (s nm y : Nat) : Nat → Nat → Option Nat
  | 0, _ => none
  | n + 1, x => if jw_al L nm (s + x * nm) (s + y * nm) = 0 then jw_ax L s nm y n (x + 1) else some x
def jw_ay (L : Nat → Int32) (s nm : Nat) : Nat → Nat → Option (Nat × Nat)
  | 0, _ => none
  | n + 1, y => match jw_ax L s nm y y 0 with
    | some x => some (x, y)
    | none => jw_ay L s nm n (y + 1)
def jw_ag (z : Int32) : Option (Nat × Nat) → Int32
  | none => -1
  | some (x, y) => if z = 0 then nI x else nI y
theorem jz_pre {nm : Nat} (w : Nat) (h1 : 0 < nm) (h2 : nm ≤ 6) : ∃ p, p < nm ∧ (w + p) % nm = 0 ∧ ∀ k, k < p → ¬ (w + k) % nm = 0 := by
  have h : nm = 1 ∨ nm = 2 ∨ nm = 3 ∨ nm = 4 ∨ nm = 5 ∨ nm = 6 := by omega
  rcases h with rfl | rfl | rfl | rfl | rfl | rfl
  · exact ⟨0, by omega, by omega, fun k hk => by omega⟩
  · exact ⟨(2 - w % 2) % 2, by omega, by omega, fun k hk => by omega⟩
  · exact ⟨(3 - w % 3) % 3, by omega, by omega, fun k hk => by omega⟩
  · exact ⟨(4 - w % 4) % 4, by omega, by omega, fun k hk => by omega⟩
  · exact ⟨(5 - w % 5) % 5, by omega, by omega, fun k hk => by omega⟩
  · exact ⟨(6 - w % 6) % 6, by omega, by omega, fun k hk => by omega⟩
theorem jz_monk {hm : jx_H} {b w : Nat} {a : jw_A} (hR0 : jz_R hm b) (hmo : ¬ jC hm b 0 0 = 0) (hw : a 0 = nI w) (hw2 : w < 2 ^ 31) : jw_month (jC hm b) a = nI (w % jz_nm hm b) := by
  unfold jw_month
  rw [hw, show jC hm b 0 0 = nI (jz_nm hm b) from hR0.1.1]
  exact jn_rem hw2 (by have := hR0.1.2; omega) (jz_nm0 hR0 hmo)
set_option maxHeartbeats 800000 in
set_option maxRecDepth 100000 in
theorem lp_MD_again1 {d n0 : Nat} {Q : Option jx_V → jx_H → Prop} {S9 : Nat → Int32} {hm : jx_H} {b p w : Nat} {a0 : jw_A} {z : Int32} (S : Nat → Nat → Int32) (k : Nat) (hB : jz_B hm b) (hS : jz_S hm S) (hmo : ¬ jC hm b 0 0 = 0) (hA : jz_A (jz_np hm b) (jz_nm hm b) a0) (hw : a0 0 = nI w) (hf9 : S 99 = S9) (hp : p < jz_nm hm b) (hp1 : (w + p) % jz_nm hm b = 0) (hp2 : ∀ k, k < p → ¬ (w + k) % jz_nm hm b = 0) (hk : k ≤ p) (hwn : w ≤ 300)
  (kk : ∀ S' : Nat → Nat → Int32, jz_S hm S' → S' 99 = S9 → jx_W (jm_MD_againBy, d + 20, 0, 0, false, 1, n0) Q 0 0 8 [some (jv_r 11 0), some (jv_i z), none, none] [] (jS (jw_h hm (jw_nxs hm b p a0)) S'))  : jx_W (jm_MD_againBy, d + 20, 0, 0, false, 1, n0) Q 0 0 0 [some (jv_r 11 0), some (jv_i z), none, none] [] (jS (jw_h hm (jw_nxs hm b k a0)) S) := by
  have hnm6 := hB.2.2.1.2
  obtain ⟨hA1, hw1⟩ := jz_nxs hB hmo hA hw (n := k) (by omega)
  have hmk := jz_monk hB.2.2 hmo hw1 (by omega)
  have hlt := Nat.mod_lt (w + k) (jz_nm0 hB.2.2 hmo)
  refine jr_aload rfl rfl ?_
  refine jr_cv0 (mc' := 0) (ms' := 0) rfl jm_MD_month_n jm_MD_month_f rfl rfl rfl rfl rfl rfl rfl (Nat.zero_le _) (Nat.zero_le _) ?_
  refine ev_MD_month (b := b) (jz_bankB hB hS) hB.2.1 hmo ?_
  rw [show jw_month (jC (jS (jw_h hm (jw_nxs hm b k a0)) S) b) (jA (jS (jw_h hm (jw_nxs hm b k a0)) S)) = nI ((w + k) % jz_nm hm b) from hmk]
  refine jr_if_eq rfl (fun c2 => ?_) (fun c2 => ?_)
  · have hk1 : k = p := by
      rcases Nat.eq_or_lt_of_le hk with e | e
      · exact e
      · exact absurd (jn_eq (b := 0) c2 (by omega) (by decide)) (hp2 k e)
    subst hk1
    exact kk S hS hf9
  · have hk1 : k < p := by
      rcases Nat.eq_or_lt_of_le hk with e | e
      · rw [e, hp1] at c2; exact absurd rfl c2
      · exact e
    refine jr_aload rfl rfl ?_
    refine jr_aload rfl rfl ?_
    refine jr_cv0 (mc' := 0) (ms' := 0) rfl jm_MD_countedNow_n jm_MD_countedNow_f rfl rfl rfl rfl rfl rfl rfl (Nat.zero_le _) (Nat.zero_le _) ?_
    refine eS_countedNow (b := b) (jz_Wa hB hA1) hS hmo (fun S1 hS1 hf1 => ?_)
    refine jr_cv1 (mc' := 0) (ms' := 0) rfl jm_MD_goesBy_n jm_MD_goesBy_f rfl rfl rfl rfl rfl rfl rfl (Nat.zero_le _) (Nat.zero_le _) ?_
    refine eS_goesBy (b := b) (h := hm) hB hS1 hmo ?_
    refine jr_goto rfl ?_
    exact lp_MD_again1 S1 (k + 1) hB hS1 hmo hA hw ((hf1 99 (by decide) (by decide) (by decide) (by decide) (by decide)).trans hf9) hp hp1 hp2 (by omega) hwn kk
termination_by p - k
decreasing_by all_goals omega

set_option maxHeartbeats 800000 in
set_option maxRecDepth 100000 in
theorem lp_MD_areLike {d n0 : Nat} {Q : Option jx_V → jx_H → Prop} {h : jx_H} {b x y nm p q : Nat} {L : Nat → Int32} (m : Nat) (hb : jh_I h 11 0 43 = nI b) (hb2 : b < 2) (hnm : jh_I h 66 0 b = nI nm) (hnm6 : nm ≤ 6) (hx : x ≤ 30) (hy : y ≤ 30) (hm : m ≤ nm) (hLx : ∀ m, m < nm → jh_I h 112 0 (6 * x + m) = L (p + m)) (hLy : ∀ m, m < nm → jh_I h 112 0 (6 * y + m) = L (q + m)) (hQ : Q (some (jv_i (jw_al L (nm - m) (p + m) (q + m)))) h)  : jx_W (jm_MD_areLike, d, 0, 0, false, 1, n0) Q 0 0 2 [some (jv_r 11 0), some (jv_i (nI x)), some (jv_i (nI y)), some (jv_i (nI m))] [] h := by
  refine jr_iload rfl rfl ?_
  refine jr_aload rfl rfl ?_
  refine jr_getR rfl rfl rfl rfl (Or.inl rfl) ?_
  refine jr_aload rfl rfl ?_
  refine jr_getI rfl rfl ?_
  refine jr_iald (len := 2) rfl rfl hb (by omega) ?_
  rw [hnm]
  refine jr_icmp_ge rfl (fun c8 => ?_) (fun c8 => ?_)
  · refine jr_ic rfl ?_
    refine jr_zret rfl rfl rfl (Nat.zero_le _) (Nat.zero_le _) ?_
    have hm2 : nm ≤ m := jn_le (show nI nm ≤ nI m from c8) (by omega) (by omega)
    rw [show nm - m = 0 by omega] at hQ
    exact hQ
  · have hm1 : m < nm := jn_nle (show ¬ nI nm ≤ nI m from c8) (by omega) (by omega)
    have hn : nm - m = (nm - (m + 1)) + 1 := by omega
    refine jr_aload rfl rfl ?_
    refine jr_getR rfl rfl rfl rfl (Or.inl rfl) ?_
    refine jr_ic rfl ?_
    refine jr_iload rfl rfl ?_
    refine jr_imul rfl ?_
    refine jr_iload rfl rfl ?_
    refine jr_iadd rfl ?_
    refine jr_iald (len := 186) rfl rfl (jn_add (jn_mul (show _ = nI 6 from rfl) rfl) rfl) (by omega) ?_
    refine jr_aload rfl rfl ?_
    refine jr_getR rfl rfl rfl rfl (Or.inl rfl) ?_
    refine jr_ic rfl ?_
    refine jr_iload rfl rfl ?_
    refine jr_imul rfl ?_
    refine jr_iload rfl rfl ?_
    refine jr_iadd rfl ?_
    refine jr_iald (len := 186) rfl rfl (jn_add (jn_mul (show _ = nI 6 from rfl) rfl) rfl) (by omega) ?_
    rw [hLx m hm1, hLy m hm1]
    refine jr_icmp_eq rfl (fun c25 => ?_) (fun c25 => ?_)
    · refine jr_iinc3 rfl rfl ?_
      refine jr_goto rfl ?_
      rw [hn, jw_al, if_pos c25] at hQ
      rw [jn_S]
      exact lp_MD_areLike (m + 1) hb hb2 hnm hnm6 hx hy (by omega) hLx hLy hQ
    · refine jr_ic rfl ?_
      refine jr_zret rfl rfl rfl (Nat.zero_le _) (Nat.zero_le _) ?_
      rw [hn, jw_al, if_neg c25] at hQ
      exact hQ
termination_by nm - m
decreasing_by all_goals omega

set_option maxHeartbeats 800000 in
set_option maxRecDepth 100000 in
theorem ev_MD_areLike {d : Nat} {h : jx_H} {Q : Option jx_V → jx_H → Prop} {b x y nm p q : Nat} {L : Nat → Int32} (hb : jh_I h 11 0 43 = nI b) (hb2 : b < 2) (hnm : jh_I h 66 0 b = nI nm) (hnm6 : nm ≤ 6) (hx : x ≤ 30) (hy : y ≤ 30) (hLx : ∀ m, m < nm → jh_I h 112 0 (6 * x + m) = L (p + m)) (hLy : ∀ m, m < nm → jh_I h 112 0 (6 * y + m) = L (q + m)) (hQ : Q (some (jv_i (jw_al L nm p q))) h)  : jx_Ev jm_MD_areLike (d) 0 0 false 1 [jv_r 11 0, jv_i (nI x), jv_i (nI y)] h Q := by
  show jx_W (jm_MD_areLike, d, 0, 0, false, 1, _) Q 0 0 0 [some (jv_r 11 0), some (jv_i (nI x)), some (jv_i (nI y)), none] [] _
  refine jr_ic rfl ?_
  refine jr_ist3 rfl rfl ?_
  exact lp_MD_areLike 0 hb hb2 hnm hnm6 hx hy (Nat.zero_le _) hLx hLy hQ

set_option maxHeartbeats 800000 in
set_option maxRecDepth 100000 in
theorem lp_MD_again4 {d n0 : Nat} {Q : Option jx_V → jx_H → Prop} {hm : jx_H} {b p y : Nat} {a0 a : jw_A} {z : Int32} {S : Nat → Nat → Int32} (x : Nat) (hB : jz_B hm b) (hS : jz_S hm S) (hy : y ≤ 30) (hx : x ≤ y) (hL : ∀ x, x < y + 1 → ∀ m, m < jz_nm hm b → S 112 (6 * x + m) = jw_L hm b a0 (p + x * jz_nm hm b + m)) (k1 : jw_ax (jw_L hm b a0) p (jz_nm hm b) y (y - x) x = none → ∀ v : Option jx_V, jx_W (jm_MD_againBy, d + 20, 0, 0, false, 1, n0) Q 0 0 62 [some (jv_r 11 0), some (jv_i z), some (jv_i (nI y)), v] [] (jS (jw_h hm a) S))
  (k2 : ∀ x', jw_ax (jw_L hm b a0) p (jz_nm hm b) y (y - x) x = some x' → Q (some (jv_i (if z = 0 then nI x' else nI y))) (jS (jw_h hm a) S))  : jx_W (jm_MD_againBy, d + 20, 0, 0, false, 1, n0) Q 0 0 46 [some (jv_r 11 0), some (jv_i z), some (jv_i (nI y)), some (jv_i (nI x))] [] (jS (jw_h hm a) S) := by
  refine jr_iload rfl rfl ?_
  refine jr_iload rfl rfl ?_
  refine jr_icmp_ge rfl (fun c48 => ?_) (fun c48 => ?_)
  · have hx2 : y ≤ x := jn_le (show nI y ≤ nI x from c48) (by omega) (by omega)
    exact k1 (by rw [show y - x = 0 by omega]; rfl) _
  · have hx1 : x < y := jn_nle (show ¬ nI y ≤ nI x from c48) (by omega) (by omega)
    have hn : y - x = (y - (x + 1)) + 1 := by omega
    refine jr_aload rfl rfl ?_
    refine jr_iload rfl rfl ?_
    refine jr_iload rfl rfl ?_
    refine jr_cv2 (mc' := 0) (ms' := 0) rfl jm_MD_areLike_n jm_MD_areLike_f rfl rfl rfl rfl rfl rfl rfl (Nat.zero_le _) (Nat.zero_le _) ?_
    refine ev_MD_areLike (b := b) (nm := jz_nm hm b) (L := jw_L hm b a0) (p := p + x * jz_nm hm b) (q := p + y * jz_nm hm b) (jz_bankB hB hS) hB.2.1 hB.2.2.1.1 hB.2.2.1.2 (by omega) hy (fun m hm => hL x (by omega) m hm) (fun m hm => hL y (by omega) m hm) ?_
    refine jr_if_eq rfl (fun c53 => ?_) (fun c53 => ?_)
    · refine jr_iinc3 rfl rfl ?_
      refine jr_goto rfl ?_
      rw [jn_S]
      refine lp_MD_again4 (x + 1) hB hS hy (by omega) hL (fun e => k1 ?_) (fun x' e => k2 x' ?_)
      · rw [hn, jw_ax, if_pos c53]; exact e
      · rw [hn, jw_ax, if_pos c53]; exact e
    · refine jr_iload rfl rfl ?_
      refine jr_if_ne rfl (fun c55 => ?_) (fun c55 => ?_)
      · refine jr_iload rfl rfl ?_
        refine jr_iret rfl rfl (Nat.zero_le _) (Nat.zero_le _) ?_
        have := k2 x (by rw [hn, jw_ax, if_neg c53])
        first
          | (rw [if_pos c55] at this; exact this)
          | (rw [if_neg c55] at this; exact this)
      · refine jr_iload rfl rfl ?_
        refine jr_goto rfl ?_
        refine jr_iret rfl rfl (Nat.zero_le _) (Nat.zero_le _) ?_
        have := k2 x (by rw [hn, jw_ax, if_neg c53])
        first
          | (rw [if_pos c55] at this; exact this)
          | (rw [if_neg c55] at this; exact this)
termination_by y - x
decreasing_by all_goals omega

set_option maxHeartbeats 800000 in
set_option maxRecDepth 100000 in
theorem lp_MD_again3 {d n0 : Nat} {Q : Option jx_V → jx_H → Prop} {S9 : Nat → Int32} {hm : jx_H} {b p w y : Nat} {a0 : jw_A} {z : Int32} (S : Nat → Nat → Int32) (m : Nat) (hB : jz_B hm b) (hS : jz_S hm S) (hmo : ¬ jC hm b 0 0 = 0) (hA : jz_A (jz_np hm b) (jz_nm hm b) a0) (hw : a0 0 = nI w) (hf9 : S 99 = S9) (hp : p ≤ 5) (hwn : w ≤ 300) (hy : y ≤ 30) (hmm : m ≤ jz_nm hm b) (hL : ∀ x, x < y → ∀ m, m < jz_nm hm b → S 112 (6 * x + m) = jw_L hm b a0 (p + x * jz_nm hm b + m)) (hLm : ∀ q, q < m → S 112 (6 * y + q) = jw_L hm b a0 (p + y * jz_nm hm b + q))
  (kk : ∀ S' : Nat → Nat → Int32, jz_S hm S' → S' 99 = S9 → (∀ x, x < y + 1 → ∀ m, m < jz_nm hm b → S' 112 (6 * x + m) = jw_L hm b a0 (p + x * jz_nm hm b + m)) → ∀ v : Option jx_V, jx_W (jm_MD_againBy, d + 20, 0, 0, false, 1, n0) Q 0 0 44 [some (jv_r 11 0), some (jv_i z), some (jv_i (nI y)), v] [] (jS (jw_h hm (jw_nxs hm b (p + (y + 1) * jz_nm hm b) a0)) S'))  : jx_W (jm_MD_againBy, d + 20, 0, 0, false, 1, n0) Q 0 0 15 [some (jv_r 11 0), some (jv_i z), some (jv_i (nI y)), some (jv_i (nI m))] [] (jS (jw_h hm (jw_nxs hm b (p + y * jz_nm hm b + m) a0)) S) := by
  have hnm := hB.2.2.1
  have hb2 := hB.2.1
  have hyn : y * jz_nm hm b ≤ 30 * 6 := Nat.mul_le_mul hy hnm.2
  obtain ⟨hA1, hw1⟩ := jz_nxs hB hmo hA hw (n := p + y * jz_nm hm b + m) (by omega)
  refine jr_iload rfl rfl ?_
  refine jr_aload rfl rfl ?_
  refine jr_getR rfl rfl rfl rfl (Or.inl rfl) ?_
  refine jr_aload rfl rfl ?_
  refine jr_getI rfl rfl ?_
  refine jr_iald (len := 2) rfl rfl (jz_bankB hB hS) (by omega) ?_
  rw [show jh_I (jS (jw_h hm (jw_nxs hm b (p + y * jz_nm hm b + m) a0)) S) 66 0 b = nI (jz_nm hm b) from hnm.1]
  refine jr_icmp_ge rfl (fun c21 => ?_) (fun c21 => ?_)
  · have hm2 : m = jz_nm hm b := by have := jn_le (show nI (jz_nm hm b) ≤ nI m from c21) (by omega) (by omega); omega
    have e : p + (y + 1) * jz_nm hm b = p + y * jz_nm hm b + m := by rw [hm2, Nat.add_mul]; omega
    rw [e] at kk
    refine kk S hS hf9 (fun x hx q hq => ?_) _
    rcases Nat.lt_succ_iff_lt_or_eq.mp hx with e2 | e2
    · exact hL x e2 q hq
    · rw [e2]; exact hLm q (by omega)
  · have hm1 : m < jz_nm hm b := jn_nle (show ¬ nI (jz_nm hm b) ≤ nI m from c21) (by omega) (by omega)
    refine jr_aload rfl rfl ?_
    refine jr_getR rfl rfl rfl rfl (Or.inl rfl) ?_
    refine jr_ic rfl ?_
    refine jr_iload rfl rfl ?_
    refine jr_imul rfl ?_
    refine jr_iload rfl rfl ?_
    refine jr_iadd rfl ?_
    refine jr_aload rfl rfl ?_
    refine jr_cv0 (mc' := 0) (ms' := 0) rfl jm_MD_countedNow_n jm_MD_countedNow_f rfl rfl rfl rfl rfl rfl rfl (Nat.zero_le _) (Nat.zero_le _) ?_
    refine eS_countedNow (b := b) (jz_Wa hB hA1) hS hmo (fun S1 hS1 hf1 => ?_)
    refine jr_iast (len := 186) rfl rfl (jn_add (jn_mul (show _ = nI 6 from rfl) rfl) rfl) (by omega) ?_
    refine jr_aload rfl rfl ?_
    refine jr_aload rfl rfl ?_
    refine jr_getR rfl rfl rfl rfl (Or.inl rfl) ?_
    refine jr_ic rfl ?_
    refine jr_iload rfl rfl ?_
    refine jr_imul rfl ?_
    refine jr_iload rfl rfl ?_
    refine jr_iadd rfl ?_
    refine jr_iald (len := 186) rfl rfl (jn_add (jn_mul (show _ = nI 6 from rfl) rfl) rfl) (by omega) ?_
    refine jr_cv1 (mc' := 0) (ms' := 0) rfl jm_MD_goesBy_n jm_MD_goesBy_f rfl rfl rfl rfl rfl rfl rfl (Nat.zero_le _) (Nat.zero_le _) ?_
    rw [show jh_I (ju_I (jS (jw_h hm (jw_nxs hm b (p + y * jz_nm hm b + m) a0)) S1) 112 0 (upd (jh_I (jS (jw_h hm (jw_nxs hm b (p + y * jz_nm hm b + m) a0)) S1) 112 0) (6 * y + m) (jw_counted (jw_h hm (jw_nxs hm b (p + y * jz_nm hm b + m) a0)) b))) 112 0 (6 * y + m) = jw_counted (jw_h hm (jw_nxs hm b (p + y * jz_nm hm b + m) a0)) b from jg_us _ _ _, jS_112]
    refine eS_goesBy (b := b) (h := hm) (S := fun k => if k = 112 then upd (S1 112) (6 * y + m) (jw_counted (jw_h hm (jw_nxs hm b (p + y * jz_nm hm b + m) a0)) b) else S1 k) hB hS1 hmo ?_
    refine jr_iinc3 rfl rfl ?_
    refine jr_goto rfl ?_
    rw [jn_S]
    have f112 : S1 112 = S 112 := hf1 112 (by decide) (by decide) (by decide) (by decide) (by decide)
    refine lp_MD_again3 _ (m + 1) hB hS1 hmo hA hw ((hf1 99 (by decide) (by decide) (by decide) (by decide) (by decide)).trans hf9) hp hwn hy (by omega) (fun x hx q hq => ?_) (fun q hq => ?_) kk
    · show upd (S1 112) (6 * y + m) _ (6 * x + q) = _
      rw [jg_un (by omega), f112]; exact hL x hx q hq
    · show upd (S1 112) (6 * y + m) _ (6 * y + q) = _
      by_cases e : q = m
      · rw [e, jg_us]
      · rw [jg_un (by omega), f112]; exact hLm q (by omega)
termination_by jz_nm hm b - m
decreasing_by all_goals omega

set_option maxHeartbeats 800000 in
set_option maxRecDepth 100000 in
theorem lp_MD_again2 {d n0 : Nat} {Q : Option jx_V → jx_H → Prop} {S9 : Nat → Int32} {hm : jx_H} {b p w : Nat} {a0 : jw_A} {z : Int32} (S : Nat → Nat → Int32) (y : Nat) (hB : jz_B hm b) (hS : jz_S hm S) (hmo : ¬ jC hm b 0 0 = 0) (hA : jz_A (jz_np hm b) (jz_nm hm b) a0) (hw : a0 0 = nI w) (hf9 : S 99 = S9) (hp : p ≤ 5) (hwn : w ≤ 300) (hy : y ≤ 31) (hL : ∀ x, x < y → ∀ m, m < jz_nm hm b → S 112 (6 * x + m) = jw_L hm b a0 (p + x * jz_nm hm b + m)) (kk : ∀ (S' : Nat → Nat → Int32) (k : Nat), jz_S hm S' → S' 99 = S9 → Q (some (jv_i (jw_ag z (jw_ay (jw_L hm b a0) p (jz_nm hm b) (31 - y) y)))) (jS (jw_h hm (jw_nxs hm b k a0)) S'))  : jx_W (jm_MD_againBy, d + 20, 0, 0, false, 1, n0) Q 0 0 10 [some (jv_r 11 0), some (jv_i z), some (jv_i (nI y)), none] [] (jS (jw_h hm (jw_nxs hm b (p + y * jz_nm hm b) a0)) S) := by
  refine jr_iload rfl rfl ?_
  refine jr_ic rfl ?_
  refine jr_icmp_gt rfl (fun c12 => ?_) (fun c12 => ?_)
  · refine jr_ic rfl ?_
    refine jr_iret rfl rfl (Nat.zero_le _) (Nat.zero_le _) ?_
    have hx1 : 30 < y := jn_lt (show nI 30 < nI y from c12) (by omega) (by omega)
    have := kk S (p + y * jz_nm hm b) hS hf9
    rw [show 31 - y = 0 by omega] at this
    exact this
  · have hl1 : y ≤ 30 := jn_nlt (show ¬ nI 30 < nI y from c12) (by omega) (by omega)
    have hn : 31 - y = (31 - (y + 1)) + 1 := by omega
    refine jr_ic rfl ?_
    refine jr_ist3 rfl rfl ?_
    refine lp_MD_again3 S 0 hB hS hmo hA hw hf9 hp hwn hl1 (Nat.zero_le _) hL (fun q hq => absurd hq (by omega)) (fun S2 hS2 hf2 hL2 v2 => ?_)
    refine jr_ic rfl ?_
    refine jr_ist3 rfl rfl ?_
    refine lp_MD_again4 0 hB hS2 hl1 (Nat.zero_le _) hL2 (fun e1 v3 => ?_) (fun x' e1 => ?_)
    · refine jr_iinc2 rfl rfl ?_
      refine jr_goto rfl ?_
      rw [jn_S]
      refine jr_drop 3 (lp_MD_again2 S2 (y + 1) hB hS2 hmo hA hw hf2 hp hwn (by omega) hL2 (fun S3 k hS3 hf3 => ?_))
      have := kk S3 k hS3 hf3
      rw [hn, jw_ay, show jw_ax (jw_L hm b a0) p (jz_nm hm b) y y 0 = none from e1] at this
      exact this
    · have := kk S2 (p + (y + 1) * jz_nm hm b) hS2 hf2
      rw [hn, jw_ay, show jw_ax (jw_L hm b a0) p (jz_nm hm b) y y 0 = some x' from e1] at this
      exact this
termination_by 31 - y
decreasing_by all_goals omega

set_option maxHeartbeats 800000 in
set_option maxRecDepth 100000 in
theorem eB_againBy {d : Nat} {h : jx_H} {Q : Option jx_V → jx_H → Prop} {b p w : Nat} {z : Int32} {S : Nat → Nat → Int32} (hw0 : jz_W h b) (hS : jz_S h S) (hmo : ¬ jC h b 0 0 = 0) (hw : jA h 0 = nI w) (hwn : w ≤ 300) (hp : p < jz_nm h b) (hp1 : (w + p) % jz_nm h b = 0) (hp2 : ∀ k, k < p → ¬ (w + k) % jz_nm h b = 0) (kk : ∀ (S' : Nat → Nat → Int32) (k : Nat), jz_S h S' → S' 99 = S 99 → Q (some (jv_i (jw_ag z (jw_ay (jw_L h b (jA h)) p (jz_nm h b) 31 0)))) (jS (jw_h h (jw_nxs h b k (jA h))) S'))  : jx_Ev jm_MD_againBy (d + 20) 0 0 false 1 [jv_r 11 0, jv_i z] (jS h S) Q := by
  show jx_W (jm_MD_againBy, d + 20, 0, 0, false, 1, _) Q 0 0 0 [some (jv_r 11 0), some (jv_i z), none, none] [] _
  have hB := jz_W_B hw0
  have hp5 : p ≤ 5 := by have := hB.2.2.1.2; omega
  have e := lp_MD_again1 (d := d) (n0 := jh_n (jS h S)) (Q := Q) (S9 := S 99) (hm := h) (b := b) (p := p) (w := w) (a0 := jA h) (z := z) S 0 hB hS hmo hw0.2.2.2 hw rfl hp hp1 hp2 (Nat.zero_le _) hwn (fun S1 hS1 hf1 => ?_)
  · rw [show jw_nxs h b 0 (jA h) = jA h from rfl, jw_h_self] at e
    exact e
  refine jr_ic rfl ?_
  refine jr_ist2 rfl rfl ?_
  have e := lp_MD_again2 (d := d) (n0 := jh_n (jS h S)) (Q := Q) (S9 := S 99) (hm := h) (b := b) (p := p) (w := w) (a0 := jA h) (z := z) S1 0 hB hS1 hmo hw0.2.2.2 hw hf1 hp5 hwn (by omega) (fun x hx => absurd hx (by omega)) kk
  rw [Nat.zero_mul] at e
  exact e

