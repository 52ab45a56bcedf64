theorem jgl_uu (h : jx_H) (k i : Nat) (f g : Nat → Int64) : ju_L (ju_L h k i f) k i g = ju_L h k i g := by
  unfold ju_L
  simp only [Prod.mk.injEq, true_and, and_true]
  funext a b
  split <;> rfl
theorem jgl_self (h : jx_H) (k i : Nat) : ju_L h k i (jh_L h k i) = h := by
  unfold ju_L jh_L
  obtain ⟨x, y, z⟩ := h
  simp only [Prod.mk.injEq, true_and, and_true]
  funext a b
  split
  · next e => rw [e.1, e.2]
  · rfl
/-- the words of the language, cut out of one constant: how many, the key under way, the row -/
def jkc (k : Nat) : Int32 := ((jx_bytS 0 k &&& 255).toUInt32 % 65536).toInt32
def jkst (x : Nat × Int64 × (Nat → Int64)) (c : Int32) : Nat × Int64 × (Nat → Int64) := if c = 32 then (x.1 + 1, 0, vp_updL x.2.2 x.1 x.2.1) else (x.1, x.2.1 * 32 + (c - 97 + 1).toInt64, x.2.2)
def jkS (F : Nat → Int64) : Nat → Nat × Int64 × (Nat → Int64)
  | 0 => (0, 0, F)
  | k + 1 => jkst (jkS F k) (jkc k)
def jkN : Nat → Nat
  | 0 => 0
  | k + 1 => jkN k + (if jkc k = 32 then 1 else 0)
theorem jkS_N (F : Nat → Int64) : ∀ k, (jkS F k).1 = jkN k
  | 0 => rfl
  | k + 1 => by
    have ih := jkS_N F k
    show (jkst (jkS F k) (jkc k)).1 = jkN k + (if jkc k = 32 then 1 else 0)
    unfold jkst
    split
    · show (jkS F k).1 + 1 = _
      rw [ih]
    · show (jkS F k).1 = _
      rw [ih]; rfl
set_option maxRecDepth 100000 in
theorem jkN_lt : ∀ k, k < 140 → jkN k < 29 := by decide +kernel
theorem jkS_lt (F : Nat → Int64) {k : Nat} (h : k < 140) : (jkS F k).1 < 29 := by rw [jkS_N]; exact jkN_lt k h
theorem jkS_y {F : Nat → Int64} {k : Nat} (h : jkc k = 32) : jkS F (k + 1) = ((jkS F k).1 + 1, 0, vp_updL (jkS F k).2.2 (jkS F k).1 (jkS F k).2.1) := if_pos h
theorem jkS_n {F : Nat → Int64} {k : Nat} (h : ¬ jkc k = 32) : jkS F (k + 1) = ((jkS F k).1, (jkS F k).2.1 * 32 + (jkc k - 97 + 1).toInt64, (jkS F k).2.2) := if_neg h
def jz0 : jx_H := (fun _ _ _ => 0, fun _ _ _ => 0, fun _ _ _ => 0, 0)
set_option maxHeartbeats 4000000 in
theorem ek_Due {d i : Nat} {h : jx_H} {Q : Option jx_V → jx_H → Prop} (hQ : Q none h) : jx_Ev jm_Due_init (d + 1) 0 0 true 0 [jv_r 2 i] h Q := by
  show jx_W (jm_Due_init, d + 1, 0, 0, true, 0, _) Q 0 0 0 [some (jv_r 2 i)] [] h
  refine jr_aload rfl rfl ?_
  refine jr_objI rfl rfl (Nat.succ_le_succ (Nat.zero_le _)) rfl ?_
  exact jr_vret rfl rfl (Nat.zero_le _) (Nat.zero_le _) hQ
set_option maxHeartbeats 4000000 in
set_option maxRecDepth 100000 in
theorem lp_words {d mc ms kc ks n0 : Nat} {h : jx_H} {F : Nat → Int64} {Q : Option jx_V → jx_H → Prop} (k : Nat) (x : Option jx_V) (hk : k ≤ 140) (hk1 : kc ≤ mc) (hk2 : ks ≤ ms) (hM : jh_M h 9 0 1 ≠ 0) (hQ : Q none (ju_L h 17 0 (jkS F 140).2.2)) : jx_W (jm_Tape_init, d + 6, mc, ms, true, 0, n0) Q kc ks 28 [some (jv_r 9 0), some (jv_i (nI (jkS F k).1)), some (jv_l (jkS F k).2.1), none, some (jv_i (nI k)), x] [] (ju_L h 17 0 (jkS F k).2.2) := by
  rcases Nat.lt_or_ge k 140 with hlt | hge
  · have hw := jkS_lt F hlt
    refine jr_iload rfl rfl ?_
    refine jr_ldcS rfl (by decide) rfl rfl ?_
    refine jr_ct0 (mc' := 0) (ms' := 0) rfl jm_Str_length_n jm_Str_length_f rfl rfl rfl rfl rfl rfl hk1 hk2 ?_
    refine ev_Str_length ?_
    refine jr_icmp_ge rfl (fun z => absurd z (nI_ge (a := k) (b := 140) (by omega) (by decide))) (fun _ => ?_)
    refine jr_iload rfl rfl ?_
    refine jr_ic rfl ?_
    refine jr_icmp_ge rfl (fun z => absurd z (nI_ge (a := (jkS F k).1) (b := 29) (by omega) (by decide))) (fun _ => ?_)
    refine jr_ldcS rfl (by decide) rfl rfl ?_
    refine jr_iload rfl rfl ?_
    refine jr_ct1 (mc' := 0) (ms' := 0) rfl jm_Str_charAt_n jm_Str_charAt_f rfl rfl rfl rfl rfl rfl hk1 hk2 ?_
    refine ev_Str_charAt (by decide) (show k < jx_lenS 0 from hlt) ?_
    refine jr_ist5 rfl rfl ?_
    refine jr_iload rfl rfl ?_
    refine jr_ic rfl ?_
    refine jr_icmp_ne rfl (fun c41 => ?_) (fun c41 => ?_)
    · refine jr_lload rfl rfl ?_
      refine jr_iload rfl rfl ?_
      refine jr_cs2 (mc' := 0) (ms' := 0) rfl jm_Tape_keyWith_n jm_Tape_keyWith_f rfl rfl rfl rfl rfl hk1 hk2 ?_
      show jx_W (jm_Tape_keyWith, _, _, _, _, _, _) _ 0 0 0 [some _, none, some _] [] _
      refine jr_lload rfl rfl ?_
      refine jr_lc rfl ?_
      refine jr_lmul rfl ?_
      refine jr_iload rfl rfl ?_
      refine jr_ic rfl ?_
      refine jr_isub rfl ?_
      refine jr_ic rfl ?_
      refine jr_iadd rfl ?_
      refine jr_i2l rfl ?_
      refine jr_ladd rfl ?_
      refine jr_lret rfl rfl (Nat.zero_le _) (Nat.zero_le _) ?_
      refine jr_lst2 rfl rfl ?_
      refine jr_iinc4 rfl rfl ?_
      refine jr_goto rfl ?_
      have kk := lp_words (d := d) (n0 := n0) (k + 1) (some (jv_i (jkc k))) (by omega) hk1 hk2 hM hQ
      rw [jkS_n (F := F) (k := k) c41] at kk
      rw [jn_S]
      exact kk
    · refine jr_aload rfl rfl ?_
      refine jr_getR rfl rfl rfl rfl (Or.inr hM) ?_
      refine jr_iload rfl rfl ?_
      refine jr_lload rfl rfl ?_
      refine jr_last (len := 29) rfl rfl rfl hw ?_
      refine jr_iinc1 rfl rfl ?_
      refine jr_lc rfl ?_
      refine jr_lst2 rfl rfl ?_
      refine jr_goto rfl ?_
      refine jr_iinc4 rfl rfl ?_
      refine jr_goto rfl ?_
      have kk := lp_words (d := d) (n0 := n0) (k + 1) (some (jv_i (jkc k))) (by omega) hk1 hk2 hM hQ
      rw [jkS_y (F := F) (k := k) (Decidable.byContradiction c41)] at kk
      rw [jn_S, jn_S, jgl_uu, jg_LL]
      exact kk
  · have e : k = 140 := by omega
    subst e
    refine jr_iload rfl rfl ?_
    refine jr_ldcS rfl (by decide) rfl rfl ?_
    refine jr_ct0 (mc' := 0) (ms' := 0) rfl jm_Str_length_n jm_Str_length_f rfl rfl rfl rfl rfl rfl hk1 hk2 ?_
    refine ev_Str_length ?_
    refine jr_icmp_ge rfl (fun _ => ?_) (fun z => absurd (by decide +kernel) z)
    refine jr_vret rfl rfl hk1 hk2 ?_
    exact hQ
termination_by 140 - k
decreasing_by all_goals omega

theorem lp_words0 {d mc ms kc ks n0 : Nat} {h : jx_H} {Q : Option jx_V → jx_H → Prop} (hk1 : kc ≤ mc) (hk2 : ks ≤ ms) (hM : jh_M h 9 0 1 ≠ 0) (hQ : Q none (ju_L h 17 0 (jkS (jh_L h 17 0) 140).2.2)) : jx_W (jm_Tape_init, d + 6, mc, ms, true, 0, n0) Q kc ks 28 [some (jv_r 9 0), some (jv_i 0), some (jv_l 0), none, some (jv_i 0), none] [] h := by
  have kk := lp_words (d := d) (n0 := n0) (F := jh_L h 17 0) 0 none (by omega) hk1 hk2 hM hQ
  rw [show (jkS (jh_L h 17 0) 0).2.2 = jh_L h 17 0 from rfl, jgl_self] at kk
  exact kk
/-- where an array of arrays and its six rows will stand -/
def jx_mq (sd n a : Nat) : Bool := decide ((jx_cells sd)[n]? = some (a, 0)) && (List.range 6).all (fun j => decide ((jx_cells sd)[n + 1 + j]? = some (a + 1, j)))
def jk_m (h : jx_H) (a : Nat) : jx_H := ju_M (ju_z (ju_z (ju_z (ju_z (ju_z (ju_z (ju_z h a 0) (a + 1) 0) (a + 1) 1) (a + 1) 2) (a + 1) 3) (a + 1) 4) (a + 1) 5) a 0 (fun j => if j < 6 then 1 else 0)
theorem jr_multi {T : jx_P} {Q : Option jx_V → jx_H → Prop} {kc ks n : Nat} {ls : List (Option jx_V)} {st : List jx_V} {h : jx_H} {a : Nat} {z : Int} (hc : jx_at (jm_k (jt_Y T)) n = some (jx_oz 75 0 0 z)) (ha : a = 57 ∨ a = 59) (hA : jt_al T = true) (hq : jx_mq (jt_sd T) (jh_n h) a = true) (hkc : kc + 7 ≤ jt_mc T) (hks : ks + 942 ≤ jt_ms T) (k : jx_W T Q (kc + 7) (ks + 942) (n + 1) ls (jv_r a 0 :: st) (jk_m h a)) : jx_W T Q kc ks n ls (jv_i 156 :: jv_i 6 :: st) h := by
  sorry
theorem jk_u {f : Nat → Int32} (i : Nat) : upd (fun j => if j < i then 0 else f j) i 0 = fun j => if j < i + 1 then 0 else f j := by
  funext j
  unfold upd
  by_cases e : j = i
  · rw [if_pos e, if_pos (by omega)]
  · rw [if_neg e]
    by_cases l : j < i
    · rw [if_pos l, if_pos (by omega)]
    · rw [if_neg l, if_neg (by omega)]
set_option maxHeartbeats 4000000 in
set_option maxRecDepth 100000 in
theorem ek_np {d : Nat} {h : jx_H} {Q : Option jx_V → jx_H → Prop} (hM : jh_M h 11 0 12 ≠ 0) (hb : jh_I h 11 0 43 = nI 0) (hp : jh_I h 67 0 0 = 0) (hQ : Q (some (jv_i 0)) h) : jx_Ev jm_MD_personMany d 0 0 true 1 [jv_r 11 0] h Q := by
  show jx_W (jm_MD_personMany, d, 0, 0, true, 1, _) Q 0 0 0 [some (jv_r 11 0)] [] h
  refine jr_aload rfl rfl ?_
  refine jr_getR rfl rfl rfl rfl (Or.inr hM) ?_
  refine jr_aload rfl rfl ?_
  refine jr_getI rfl rfl ?_
  refine jr_iald (len := 2) rfl rfl hb (by decide) ?_
  refine jr_iret rfl rfl (Nat.zero_le _) (Nat.zero_le _) ?_
  rw [hp]; exact hQ
set_option maxHeartbeats 4000000 in
set_option maxRecDepth 100000 in
theorem lp_z {d mc ms kc ks n0 : Nat} {h : jx_H} {Q : Option jx_V → jx_H → Prop} (i : Nat) (hi : i ≤ 337) (hM : jh_M h 11 0 54 ≠ 0) (hQ : jx_W (jm_MD_begin, d + 2, mc, ms, true, 1, n0) Q kc ks 12 [some (jv_r 11 0), some (jv_i (nI 337))] [] (ju_I h 98 0 (fun j => if j < 337 then 0 else jh_I h 98 0 j))) : jx_W (jm_MD_begin, d + 2, mc, ms, true, 1, n0) Q kc ks 2 [some (jv_r 11 0), some (jv_i (nI i))] [] (ju_I h 98 0 (fun j => if j < i then 0 else jh_I h 98 0 j)) := by
  refine jr_iload rfl rfl ?_
  refine jr_ic rfl ?_
  refine jr_icmp_ge rfl (fun c4 => ?_) (fun c4 => ?_)
  · have hx1 : 337 ≤ i := jn_le (show nI 337 ≤ nI i from c4) (by omega) (by omega)
    have e : i = 337 := by omega
    subst e
    exact hQ
  · have hl1 : i < 337 := jn_nle (show ¬ nI 337 ≤ nI i from c4) (by omega) (by omega)
    refine jr_aload rfl rfl ?_
    refine jr_getR rfl rfl rfl rfl (Or.inr hM) ?_
    refine jr_iload rfl rfl ?_
    refine jr_ic rfl ?_
    refine jr_iast (len := 337) rfl rfl rfl hl1 ?_
    refine jr_iinc1 rfl rfl ?_
    refine jr_goto rfl ?_
    rw [jn_S, jg_uu, jg_II, jk_u]
    exact lp_z (i + 1) (by omega) hM hQ
termination_by 337 - i
decreasing_by all_goals omega
theorem lp_z0 {d mc ms kc ks n0 : Nat} {h : jx_H} {Q : Option jx_V → jx_H → Prop} (hM : jh_M h 11 0 54 ≠ 0) (hQ : jx_W (jm_MD_begin, d + 2, mc, ms, true, 1, n0) Q kc ks 12 [some (jv_r 11 0), some (jv_i (nI 337))] [] (ju_I h 98 0 (fun j => if j < 337 then 0 else jh_I h 98 0 j))) : jx_W (jm_MD_begin, d + 2, mc, ms, true, 1, n0) Q kc ks 2 [some (jv_r 11 0), some (jv_i 0)] [] h := by
  have kk := lp_z 0 (by omega) hM hQ
  rw [show (fun j => if j < 0 then (0 : Int32) else jh_I h 98 0 j) = jh_I h 98 0 from funext fun j => if_neg (by omega), jg_self] at kk
  exact kk
