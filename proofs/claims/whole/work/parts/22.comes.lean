theorem jg_uu (h : jx_H) (k i : Nat) (f g : Nat → Int32) : ju_I (ju_I h k i f) k i g = ju_I h k i g := by
  unfold ju_I
  refine congrArg (·, h.2) ?_
  funext a b
  dsimp only
  split <;> rfl
/-- a letter -/
def jw_let (c : Int32) : Prop := 97 ≤ c ∧ c ≤ 122
def jw_st (c v : Int32) : List Int32 → List Int32
  | [] => if c = 126 then [] else [v]
  | [x] => if c = 126 then [if x = 0 then 1 else 0] else [v, x]
  | y :: x :: s => if c = 126 then (if y = 0 then 1 else 0) :: x :: s else if 97 ≤ c ∧ c ≤ 122 then v :: y :: x :: s else jw_two c x y :: s
/-- a rule's signs from place k on, n of them, upon a pile -/
def jw_evs (cd nm : Nat → Int32) (ask : Int32 → Int32 → Int32) : Nat → Nat → List Int32 → List Int32
  | 0, _, s => s
  | n + 1, k, s => jw_evs cd nm ask n (k + 1) (jw_st (cd k) (ask (cd k) (nm k)) s)
/-- the pile never runs short nor over -/
def jw_ok (cd : Nat → Int32) : Nat → Nat → Nat → Prop
  | 0, _, m => m = 1
  | n + 1, k, m => (cd k = 126 ∧ 1 ≤ m ∧ jw_ok cd n (k + 1) m) ∨ (cd k ≠ 126 ∧ (97 ≤ cd k ∧ cd k ≤ 122) ∧ m < 60 ∧ jw_ok cd n (k + 1) (m + 1)) ∨ (cd k ≠ 126 ∧ ¬ (97 ≤ cd k ∧ cd k ≤ 122) ∧ 2 ≤ m ∧ jw_ok cd n (k + 1) (m - 1))
/-- the array holds the pile -/
def jw_pl (F : Nat → Int32) : List Int32 → Prop
  | [] => True
  | x :: s => F s.length = x ∧ jw_pl F s
theorem jw_pl_upd {F : Nat → Int32} {v : Int32} : ∀ {s : List Int32} {m : Nat}, s.length ≤ m → jw_pl F s → jw_pl (upd F m v) s
  | [], _, _, _ => trivial
  | x :: s, m, hm, h => by
    have hm' : s.length + 1 ≤ m := hm
    exact ⟨(jg_un (by omega)).trans h.1, jw_pl_upd (by omega) h.2⟩
theorem jw_pl_push {F : Nat → Int32} {v : Int32} {s : List Int32} {m : Nat} (hm : s.length = m) (h : jw_pl F s) : jw_pl (upd F m v) (v :: s) := by
  subst hm
  exact ⟨jg_us _ _ _, jw_pl_upd (Nat.le_refl _) h⟩
theorem jn_dec {m : Nat} (h : 1 ≤ m) : nI m + (-1) = nI (m - 1) := by
  rw [← jn_sub rfl (jn_c 1) h, Int32.sub_eq_add_neg]
theorem jw_st_not {c v x : Int32} {t : List Int32} (h : c = 126) : jw_st c v (x :: t) = (if x = 0 then 1 else 0) :: t := by
  cases t <;> simp [jw_st, h]
theorem jw_st_let {c v : Int32} {s : List Int32} (h : c ≠ 126) (hl : 97 ≤ c ∧ c ≤ 122) : jw_st c v s = v :: s := by
  match s with
  | [] => simp [jw_st, h]
  | [x] => simp [jw_st, h]
  | y :: x :: s => simp only [jw_st, if_neg h, if_pos hl]
theorem jw_st_two {c v x y : Int32} {t : List Int32} (h : c ≠ 126) (hl : ¬ (97 ≤ c ∧ c ≤ 122)) : jw_st c v (y :: x :: t) = jw_two c x y :: t := by
  simp only [jw_st, if_neg h, if_neg hl]
theorem jC_97 (h : jx_H) (F : Nat → Int32) (b : Nat) : jC (ju_I h 97 0 F) b = jC h b := rfl
set_option maxHeartbeats 4000000 in
set_option maxRecDepth 100000 in
theorem lp_MD_comes {d : Nat} {Q : Option jx_V → jx_H → Prop} {b r n0 : Nat} {h : jx_H} {s : List Int32} {m : Nat} {F : Nat → Int32} (n k : Nat) (hb : jh_I h 11 0 43 = nI b) (hb2 : b < 2) (hr : r < 6) (hm0 : ¬ jC h b 0 0 = 0) (ht : jh_I h 83 0 (6 * b + r) = nI (k + n)) (hkn : k + n ≤ 1240) (hs : s.length = m) (hok : jw_ok (jh_I h 93 0) n k m) (hm60 : m ≤ 60) (hF : jw_pl F s) (hQ : ∀ F : Nat → Int32, Q (some (jv_i ((jw_evs (jh_I h 93 0) (jh_I h 94 0) (jw_asked (jC h b) (jA h) (fun i => jh_I h 11 0 (49 + i))) n k s).headD 0))) (ju_I h 97 0 F)) : jx_W (jm_MD_comes, d + 2, 0, 0, false, 1, n0) Q 0 0 12 [some (jv_r 11 0), some (jv_i (nI r)), some (jv_i (nI m)), some (jv_i (nI k)), none] [] (ju_I h 97 0 F) := by
  refine jr_iload rfl rfl ?_
  refine jr_aload rfl rfl ?_
  refine jr_getR rfl rfl rfl rfl (Or.inl rfl) ?_
  refine jr_ic rfl ?_
  refine jr_aload rfl rfl ?_
  refine jr_getI rfl rfl ?_
  refine jr_imul rfl ?_
  refine jr_iload rfl rfl ?_
  refine jr_iadd rfl ?_
  refine jr_iald (len := 12) rfl rfl (jn_add (jn_mul (jn_c 6) hb) rfl) (by omega) ?_
  refine jr_icmp_ge rfl (fun c22 => ?_) (fun c22 => ?_)
  · have c22' : jh_I h 83 0 (6 * b + r) ≤ nI k := c22
    rw [ht] at c22'
    have hn0 : n = 0 := by have := jc_ge c22' (by omega) (by omega); omega
    subst hn0
    have hm1 : m = 1 := hok
    have hs1 : ∃ x, s = [x] := by
      cases s with
      | nil => have : (0 : Nat) = m := hs; omega
      | cons x t =>
        cases t with
        | nil => exact ⟨x, rfl⟩
        | cons y t => have : t.length + 1 + 1 = m := hs; omega
    obtain ⟨x, rfl⟩ := hs1
    have hx : F 0 = x := hF.1
    refine jr_aload rfl rfl ?_
    refine jr_getR rfl rfl rfl rfl (Or.inl rfl) ?_
    refine jr_ic rfl ?_
    refine jr_iald (len := 60) rfl rfl (jn_c 0) (by omega) ?_
    refine jr_iret rfl rfl (Nat.zero_le _) (Nat.zero_le _) ?_
    have e : jh_I (ju_I h 97 0 F) 97 0 0 = x := hx
    rw [e]
    exact hQ F
  · have c22' : ¬ jh_I h 83 0 (6 * b + r) ≤ nI k := c22
    rw [ht] at c22'
    have hn1 := jc_lt c22' (by omega) (by omega)
    obtain ⟨n, rfl⟩ : ∃ n', n = n' + 1 := ⟨n - 1, by omega⟩
    have hok : (jh_I h 93 0 k = 126 ∧ 1 ≤ m ∧ jw_ok (jh_I h 93 0) n (k + 1) m) ∨ (jh_I h 93 0 k ≠ 126 ∧ (97 ≤ jh_I h 93 0 k ∧ jh_I h 93 0 k ≤ 122) ∧ m < 60 ∧ jw_ok (jh_I h 93 0) n (k + 1) (m + 1)) ∨ (jh_I h 93 0 k ≠ 126 ∧ ¬ (97 ≤ jh_I h 93 0 k ∧ jh_I h 93 0 k ≤ 122) ∧ 2 ≤ m ∧ jw_ok (jh_I h 93 0) n (k + 1) (m - 1)) := hok
    refine jr_aload rfl rfl ?_
    refine jr_getR rfl rfl rfl rfl (Or.inl rfl) ?_
    refine jr_iload rfl rfl ?_
    refine jr_iald (len := 1240) rfl rfl rfl (by omega) ?_
    refine jr_ist4 rfl rfl ?_
    refine jr_iload rfl rfl ?_
    refine jr_ic rfl ?_
    refine jr_icmp_ne rfl (fun c30 => ?_) (fun c30 => ?_)
    · refine jr_iload rfl rfl ?_
      refine jr_cs1 (mc' := 0) (ms' := 0) rfl jm_MD_isLetter_n jm_MD_isLetter_f rfl rfl rfl rfl rfl (Nat.zero_le _) (Nat.zero_le _) ?_
      refine ev_MD_isLetter ?_
      refine jr_if_eq rfl (fun c50 => ?_) (fun c50 => ?_)
      · have hlet := jc_b0 c50
        have hok1 : 2 ≤ m ∧ jw_ok (jh_I h 93 0) n (k + 1) (m - 1) := by
          rcases hok with ⟨h1, -⟩ | ⟨-, h1, -⟩ | ⟨-, -, h1⟩
          · exact absurd h1 c30
          · exact absurd h1 hlet
          · exact h1
        obtain ⟨hm1, hok2⟩ := hok1
        have hs1 : ∃ y x t, s = y :: x :: t := by
          cases s with
          | nil => have : (0 : Nat) = m := hs; omega
          | cons y t =>
            cases t with
            | nil => have : (0 : Nat) + 1 = m := hs; omega
            | cons x t => exact ⟨y, x, t, rfl⟩
        obtain ⟨y, x, t, rfl⟩ := hs1
        have hs' : t.length + 1 + 1 = m := hs
        have hy : F (m - 1) = y := by rw [← hs', Nat.add_sub_cancel]; exact hF.1
        have hx : F (m - 1 - 1) = x := by rw [← hs', Nat.add_sub_cancel, Nat.add_sub_cancel]; exact hF.2.1
        refine jr_iinc2 rfl rfl ?_
        refine jr_aload rfl rfl ?_
        refine jr_getR rfl rfl rfl rfl (Or.inl rfl) ?_
        refine jr_iload rfl rfl ?_
        refine jr_ic rfl ?_
        refine jr_isub rfl ?_
        refine jr_iload rfl rfl ?_
        refine jr_aload rfl rfl ?_
        refine jr_getR rfl rfl rfl rfl (Or.inl rfl) ?_
        refine jr_iload rfl rfl ?_
        refine jr_ic rfl ?_
        refine jr_isub rfl ?_
        refine jr_iald (len := 60) rfl rfl (jn_sub (jn_dec (by omega)) (jn_c 1) (by omega)) (by omega) ?_
        refine jr_aload rfl rfl ?_
        refine jr_getR rfl rfl rfl rfl (Or.inl rfl) ?_
        refine jr_iload rfl rfl ?_
        refine jr_iald (len := 60) rfl rfl (jn_dec (by omega)) (by omega) ?_
        refine jr_cs3 (mc' := 0) (ms' := 0) rfl jm_MD_two_n jm_MD_two_f rfl rfl rfl rfl rfl (Nat.zero_le _) (Nat.zero_le _) ?_
        refine ev_MD_two ?_
        refine jr_iast (len := 60) rfl rfl (jn_sub (jn_dec (by omega)) (jn_c 1) (by omega)) (by omega) ?_
        refine jr_iinc3 rfl rfl ?_
        refine jr_goto rfl ?_
        rw [jg_uu, jg_II, jn_S k, jn_dec (by omega), hx, hy]
        refine jr_drop 4 (lp_MD_comes n (k + 1) hb hb2 hr hm0 (by rw [ht]; exact congrArg nI (by omega)) (by omega) (s := _ :: t) (by show t.length + 1 = _; omega) hok2 (by omega) (jw_pl_push (by omega) hF.2.2) (fun F' => ?_))
        have := hQ F'
        rw [jw_evs, jw_st_two (show jh_I h 93 0 k ≠ 126 from c30) hlet] at this
        exact this
      · have hlet := jc_b1 c50
        have hok1 : m < 60 ∧ jw_ok (jh_I h 93 0) n (k + 1) (m + 1) := by
          rcases hok with ⟨h1, -⟩ | ⟨-, -, h1⟩ | ⟨-, h1, -⟩
          · exact absurd h1 c30
          · exact h1
          · exact absurd hlet h1
        obtain ⟨hm1, hok2⟩ := hok1
        refine jr_aload rfl rfl ?_
        refine jr_getR rfl rfl rfl rfl (Or.inl rfl) ?_
        refine jr_iload rfl rfl ?_
        refine jr_aload rfl rfl ?_
        refine jr_iload rfl rfl ?_
        refine jr_aload rfl rfl ?_
        refine jr_getR rfl rfl rfl rfl (Or.inl rfl) ?_
        refine jr_iload rfl rfl ?_
        refine jr_iald (len := 1240) rfl rfl rfl (by omega) ?_
        refine jr_cv2 (mc' := 0) (ms' := 0) rfl jm_MD_asked_n jm_MD_asked_f rfl rfl rfl rfl rfl rfl rfl (Nat.zero_le _) (Nat.zero_le _) ?_
        refine ev_MD_asked hb hb2 hm0 ?_
        refine jr_iast (len := 60) rfl rfl rfl (by omega) ?_
        refine jr_iinc2 rfl rfl ?_
        refine jr_goto rfl ?_
        refine jr_iinc3 rfl rfl ?_
        refine jr_goto rfl ?_
        rw [jg_uu, jg_II, jn_S m, jn_S k]
        refine jr_drop 4 (lp_MD_comes n (k + 1) hb hb2 hr hm0 (by rw [ht]; exact congrArg nI (by omega)) (by omega) (s := _ :: s) (congrArg (· + 1) hs) hok2 (by omega) (jw_pl_push hs hF) (fun F' => ?_))
        have := hQ F'
        rw [jw_evs, jw_st_let (show jh_I h 93 0 k ≠ 126 from c30) hlet] at this
        exact this
    · have hok1 : 1 ≤ m ∧ jw_ok (jh_I h 93 0) n (k + 1) m := by
        rcases hok with ⟨-, h1⟩ | ⟨h1, -⟩ | ⟨h1, -⟩
        · exact h1
        · exact absurd c30 h1
        · exact absurd c30 h1
      obtain ⟨hm1, hok2⟩ := hok1
      have hs1 : ∃ x t, s = x :: t := by
        cases s with
        | nil => have : (0 : Nat) = m := hs; omega
        | cons x t => exact ⟨x, t, rfl⟩
      obtain ⟨x, t, rfl⟩ := hs1
      have hs' : t.length + 1 = m := hs
      have hx : F (m - 1) = x := by rw [← hs', Nat.add_sub_cancel]; exact hF.1
      refine jr_aload rfl rfl ?_
      refine jr_getR rfl rfl rfl rfl (Or.inl rfl) ?_
      refine jr_iload rfl rfl ?_
      refine jr_ic rfl ?_
      refine jr_isub rfl ?_
      refine jr_aload rfl rfl ?_
      refine jr_getR rfl rfl rfl rfl (Or.inl rfl) ?_
      refine jr_iload rfl rfl ?_
      refine jr_ic rfl ?_
      refine jr_isub rfl ?_
      refine jr_iald (len := 60) rfl rfl (jn_sub rfl (jn_c 1) (by omega)) (by omega) ?_
      refine jr_if_ne rfl (fun c42 => ?_) (fun c42 => ?_)
      · refine jr_ic rfl ?_
        refine jr_iast (len := 60) rfl rfl (jn_sub rfl (jn_c 1) (by omega)) (by omega) ?_
        refine jr_goto rfl ?_
        refine jr_iinc3 rfl rfl ?_
        refine jr_goto rfl ?_
        have c42' : ¬ F (m - 1) = 0 := c42
        rw [hx] at c42'
        have hv : (if x = 0 then (1 : Int32) else 0) = 0 := if_neg c42'
        rw [jg_uu, jg_II, jn_S]
        refine jr_drop 4 (lp_MD_comes n (k + 1) hb hb2 hr hm0 (by rw [ht]; exact congrArg nI (by omega)) (by omega) (s := (if x = 0 then 1 else 0) :: t) hs hok2 hm60 ?_ (fun F' => ?_))
        · rw [hv]; exact jw_pl_push (by omega) hF.2
        · have := hQ F'
          rw [jw_evs, jw_st_not (show jh_I h 93 0 k = 126 from c30)] at this
          exact this
      · refine jr_ic rfl ?_
        refine jr_goto rfl ?_
        refine jr_iast (len := 60) rfl rfl (jn_sub rfl (jn_c 1) (by omega)) (by omega) ?_
        refine jr_goto rfl ?_
        refine jr_iinc3 rfl rfl ?_
        refine jr_goto rfl ?_
        have c42' : F (m - 1) = 0 := c42
        rw [hx] at c42'
        have hv : (if x = 0 then (1 : Int32) else 0) = 1 := if_pos c42'
        rw [jg_uu, jg_II, jn_S]
        refine jr_drop 4 (lp_MD_comes n (k + 1) hb hb2 hr hm0 (by rw [ht]; exact congrArg nI (by omega)) (by omega) (s := (if x = 0 then 1 else 0) :: t) hs hok2 hm60 ?_ (fun F' => ?_))
        · rw [hv]; exact jw_pl_push (by omega) hF.2
        · have := hQ F'
          rw [jw_evs, jw_st_not (show jh_I h 93 0 k = 126 from c30)] at this
          exact this
termination_by 1240 - k
decreasing_by all_goals omega

theorem jg_self (h : jx_H) (k i : Nat) : ju_I h k i (jh_I h k i) = h := by
  unfold ju_I jh_I
  refine Prod.ext ?_ rfl
  funext a b
  dsimp only
  split
  · rename_i e; rw [e.1, e.2]
  · rfl
set_option maxHeartbeats 4000000 in
set_option maxRecDepth 100000 in
theorem ev_MD_comes {d : Nat} {h : jx_H} {Q : Option jx_V → jx_H → Prop} {b r n k : Nat} (hb : jh_I h 11 0 43 = nI b) (hb2 : b < 2) (hr : r < 6) (hm0 : ¬ jC h b 0 0 = 0) (hf : jh_I h 82 0 (6 * b + r) = nI k) (ht : jh_I h 83 0 (6 * b + r) = nI (k + n)) (hkn : k + n ≤ 1240) (hok : jw_ok (jh_I h 93 0) n k 0) (hQ : ∀ F : Nat → Int32, Q (some (jv_i ((jw_evs (jh_I h 93 0) (jh_I h 94 0) (jw_asked (jC h b) (jA h) (fun i => jh_I h 11 0 (49 + i))) n k []).headD 0))) (ju_I h 97 0 F)) : jx_Ev jm_MD_comes (d + 2) 0 0 false 1 [jv_r 11 0, jv_i (nI r)] h Q := by
  show jx_W (jm_MD_comes, d + 2, 0, 0, false, 1, jh_n h) Q 0 0 0 [some (jv_r 11 0), some (jv_i (nI r)), none, none, none] [] h
  refine jr_ic rfl ?_
  refine jr_ist2 rfl rfl ?_
  refine jr_aload rfl rfl ?_
  refine jr_getR rfl rfl rfl rfl (Or.inl rfl) ?_
  refine jr_ic rfl ?_
  refine jr_aload rfl rfl ?_
  refine jr_getI rfl rfl ?_
  refine jr_imul rfl ?_
  refine jr_iload rfl rfl ?_
  refine jr_iadd rfl ?_
  refine jr_iald (len := 12) rfl rfl (jn_add (jn_mul (jn_c 6) hb) rfl) (by omega) ?_
  refine jr_ist3 rfl rfl ?_
  have e := lp_MD_comes (n0 := jh_n h) (d := d) (F := jh_I h 97 0) (s := []) (m := 0) n k hb hb2 hr hm0 ht hkn rfl hok (Nat.zero_le _) trivial hQ
  rw [jg_self] at e
  rw [hf]
  exact e

