def jM (h : jx_H) (F : Nat → Int32) (G : Nat → Int64) : jx_H := ju_L (ju_I h 11 0 F) 11 0 G
theorem jM_I (h : jx_H) (F : Nat → Int32) (G : Nat → Int64) (F' : Nat → Int32) : ju_I (jM h F G) 11 0 F' = jM h F' G := by
  unfold jM ju_I ju_L
  refine Prod.ext ?_ rfl
  funext x y
  dsimp only
  by_cases e : x = 11 ∧ y = 0
  · rw [if_pos e, if_pos e]
  · rw [if_neg e, if_neg e, if_neg e]
theorem jM_L (h : jx_H) (F : Nat → Int32) (G : Nat → Int64) (G' : Nat → Int64) : ju_L (jM h F G) 11 0 G' = jM h F G' := by
  unfold jM ju_I ju_L
  refine Prod.ext rfl (Prod.ext ?_ rfl)
  funext x y
  dsimp only
  by_cases e : x = 11 ∧ y = 0
  · rw [if_pos e, if_pos e]
  · rw [if_neg e, if_neg e, if_neg e]
theorem jM_rI (h : jx_H) (F : Nat → Int32) (G : Nat → Int64) : jh_I (jM h F G) 11 0 = F := rfl
theorem jM_rL (h : jx_H) (F : Nat → Int32) (G : Nat → Int64) : jh_L (jM h F G) 11 0 = G := rfl
theorem jM_self (h : jx_H) : jM h (jh_I h 11 0) (jh_L h 11 0) = h := by
  unfold jM ju_I ju_L jh_I jh_L
  refine Prod.ext ?_ (Prod.ext ?_ rfl)
  · funext x y
    dsimp only
    split
    · rename_i e; rw [e.1, e.2]
    · rfl
  · funext x y
    dsimp only
    split
    · rename_i e; rw [e.1, e.2]
    · rfl
theorem jT_s8 (x : Int64) : x <<< ((8 : Int32).toInt64 &&& 63) = x <<< 8 := congrArg (x <<< ·) (by decide)
def jT_W : Nat → Int64 := fun i => jT_key (jy_words.getD i [])
theorem jT_W0 : (470020945000 : Int64) = jT_key (jy_words.getD 0 []) := by decide +kernel
theorem jT_W1 : (1684109683 : Int64) = jT_key (jy_words.getD 1 []) := by decide +kernel
theorem jT_W2 : (1734702195 : Int64) = jT_key (jy_words.getD 2 []) := by decide +kernel
theorem jT_W3 : (1870095731 : Int64) = jT_key (jy_words.getD 3 []) := by decide +kernel
theorem jT_W4 : (431416239732 : Int64) = jT_key (jy_words.getD 4 []) := by decide +kernel
theorem jT_W5 : (2036687218 : Int64) = jT_key (jy_words.getD 5 []) := by decide +kernel
theorem jT_W6 : (1751217765 : Int64) = jT_key (jy_words.getD 6 []) := by decide +kernel
theorem jT_W7 : (1718775661 : Int64) = jT_key (jy_words.getD 7 []) := by decide +kernel
theorem jT_W8 : (29807 : Int64) = jT_key (jy_words.getD 8 []) := by decide +kernel
theorem jT_W9 : (123581014175598 : Int64) = jT_key (jy_words.getD 9 []) := by decide +kernel
theorem jT_W10 : (508676040051 : Int64) = jT_key (jy_words.getD 10 []) := by decide +kernel
theorem jT_W11 : (2003399528 : Int64) = jT_key (jy_words.getD 11 []) := by decide +kernel
theorem jT_W12 : (6583653 : Int64) = jT_key (jy_words.getD 12 []) := by decide +kernel
theorem jT_W13 : (25209 : Int64) = jT_key (jy_words.getD 13 []) := by decide +kernel
theorem jT_W14 : (1885436275 : Int64) = jT_key (jy_words.getD 14 []) := by decide +kernel
theorem jT_W15 : (28526 : Int64) = jT_key (jy_words.getD 15 []) := by decide +kernel
theorem jT_W16 : (28518 : Int64) = jT_key (jy_words.getD 16 []) := by decide +kernel
theorem jT_W17 : (1818326117 : Int64) = jT_key (jy_words.getD 17 []) := by decide +kernel
theorem jT_W18 : (7566702 : Int64) = jT_key (jy_words.getD 18 []) := by decide +kernel
theorem jT_W19 : (6385252 : Int64) = jT_key (jy_words.getD 19 []) := by decide +kernel
theorem jT_W20 : (7102839 : Int64) = jT_key (jy_words.getD 20 []) := by decide +kernel
theorem jT_W21 : (427071729268 : Int64) = jT_key (jy_words.getD 21 []) := by decide +kernel
theorem jT_W22 : (1836020596 : Int64) = jT_key (jy_words.getD 22 []) := by decide +kernel
theorem jT_W23 : (120299423296613 : Int64) = jT_key (jy_words.getD 23 []) := by decide +kernel
theorem jT_W24 : (1835360622 : Int64) = jT_key (jy_words.getD 24 []) := by decide +kernel
theorem jT_W25 : (2003133803 : Int64) = jT_key (jy_words.getD 25 []) := by decide +kernel
theorem jT_W26 : (108243635103086 : Int64) = jT_key (jy_words.getD 26 []) := by decide +kernel
theorem jT_W27 : (28530 : Int64) = jT_key (jy_words.getD 27 []) := by decide +kernel
theorem jT_W28 : (7237492 : Int64) = jT_key (jy_words.getD 28 []) := by decide +kernel
def jT_mt (k : Nat) : Nat := if k = 0 then 0 else if k = 1 then 1 else if k = 2 then 4 else if k = 3 then 2 else if 100 ≤ k then 3 else 5
def jT_mc (h : jx_H) (B : Nat → Int32) (sz t : Nat) : Prop := jh_I h 11 0 6 = nI (jT_p B sz t) ∧ jh_I h 11 0 7 = nI (jT_E B sz (t + 1)) ∧ jh_I h 11 0 8 = nI (jT_mt (jT_k B sz (jT_p B sz t))) ∧ (jT_k B sz (jT_p B sz t) = 2 → jh_I h 11 0 9 = nI (jT_v B sz (jT_p B sz t))) ∧ ((jT_k B sz (jT_p B sz t) = 3 ∨ 100 ≤ jT_k B sz (jT_p B sz t)) → jh_L h 11 0 10 = jT_key (jT_wd B sz (jT_p B sz t)))
def jT_MG (h h' : jx_H) : Prop := (∀ a b, a ≠ 11 → jh_I h' a b = jh_I h a b) ∧ (∀ a b, a ≠ 11 → jh_L h' a b = jh_L h a b) ∧ h'.2.2 = h.2.2 ∧ (∀ f, f < 6 ∨ 10 < f → jh_I h' 11 0 f = jh_I h 11 0 f)
set_option maxHeartbeats 800000 in
set_option maxRecDepth 100000 in
theorem eM_sign {d : Nat} {Q : Option jx_V → jx_H → Prop} {h : jx_H} {F : Nat → Int32} {G : Nat → Int64} {B : Nat → Int32} {sz : Nat} {i : Nat} (hS : F 3 = nI sz) (hsz : sz ≤ 1700) (hB : jT_c (jh_I h 65 0) sz = jT_c B sz) (hi : i < 2 ^ 31) (k : Q (some (jv_i (nI (jT_c B sz i)))) (jM h F G))  : jx_Ev jm_MD_sign (d) 0 0 false 1 [jv_r 11 0, jv_i (nI i)] (jM h F G) Q := by
  show jx_W (jm_MD_sign, d, 0, 0, false, 1, _) Q 0 0 0 [some (jv_r 11 0), some (jv_i (nI i))] [] _
  refine jr_iload rfl rfl ?_
  refine jr_aload rfl rfl ?_
  refine jr_getI rfl rfl ?_
  rw [show jh_I (jM h F G) 11 0 3 = nI sz from hS]
  refine jr_icmp_ge rfl (fun c3 => ?_) (fun c3 => ?_)
  · refine jr_ic rfl ?_
    refine jr_iret rfl rfl (Nat.zero_le _) (Nat.zero_le _) ?_
    rw [jT_c_0 (jn_le (show nI sz ≤ nI i from c3) (by omega) (by omega))] at k
    exact k
  · have hi1 : i < sz := jn_nle (show ¬ nI sz ≤ nI i from c3) (by omega) (by omega)
    refine jr_aload rfl rfl ?_
    refine jr_getR rfl rfl rfl rfl (Or.inl rfl) ?_
    refine jr_iload rfl rfl ?_
    refine jr_bald (len := 1700) rfl rfl rfl (by omega) ?_
    refine jr_ic rfl ?_
    refine jr_iand rfl ?_
    refine jr_goto rfl ?_
    refine jr_iret rfl rfl (Nat.zero_le _) (Nat.zero_le _) ?_
    rw [← congrFun hB i, ← jT_c_eq hi1] at k
    exact k

theorem eM_isLetter {d : Nat} {al : Bool} {h : jx_H} {Q : Option jx_V → jx_H → Prop} {c sd : Nat} (hc : c < 256) (hQ : Q (some (jv_i (if jT_l c = true then 1 else 0))) h) : jx_Ev jm_MD_isLetter (d) 0 0 al sd [jv_i (nI c)] h Q := by
  refine ev_MD_isLetter ?_
  have : (jT_l c = true) ↔ ((97 : Int32) ≤ nI c ∧ nI c ≤ 122) := by
    rw [jT_l_iff]
    exact ⟨fun z => ⟨nI_le z.1 (by omega), nI_le z.2 (by decide)⟩, fun z => ⟨jn_le z.1 (by decide) (by omega), jn_le z.2 (by omega) (by decide)⟩⟩
  by_cases e : jT_l c = true
  · rw [if_pos e] at hQ; rw [if_pos (this.mp e)]; exact hQ
  · rw [if_neg e] at hQ; rw [if_neg (fun z => e (this.mpr z))]; exact hQ
theorem eM_isDigit {d : Nat} {al : Bool} {h : jx_H} {Q : Option jx_V → jx_H → Prop} {c sd : Nat} (hc : c < 256) (hQ : Q (some (jv_i (if jT_d c = true then 1 else 0))) h) : jx_Ev jm_MD_isDigit (d) 0 0 al sd [jv_i (nI c)] h Q := by
  refine ev_MD_isDigit ?_
  have : (jT_d c = true) ↔ ((48 : Int32) ≤ nI c ∧ nI c ≤ 57) := by
    rw [jT_d_iff]
    exact ⟨fun z => ⟨nI_le z.1 (by omega), nI_le z.2 (by decide)⟩, fun z => ⟨jn_le z.1 (by decide) (by omega), jn_le z.2 (by omega) (by decide)⟩⟩
  by_cases e : jT_d c = true
  · rw [if_pos e] at hQ; rw [if_pos (this.mp e)]; exact hQ
  · rw [if_neg e] at hQ; rw [if_neg (fun z => e (this.mpr z))]; exact hQ
set_option maxHeartbeats 800000 in
set_option maxRecDepth 100000 in
theorem eM_isSign {d : Nat} {h : jx_H} {Q : Option jx_V → jx_H → Prop} {c : Nat} (hc : c < 256) (k : Q (some (jv_i (if jT_sg c = true then 1 else 0))) h)  : jx_Ev jm_MD_isSign (d) 0 0 false 1 [jv_i (nI c)] h Q := by
  show jx_W (jm_MD_isSign, d, 0, 0, false, 1, _) Q 0 0 0 [some (jv_i (nI c))] [] _
  refine jr_iload rfl rfl ?_
  refine jr_ic rfl ?_
  refine jr_icmp_eq rfl (fun c2 => ?_) (fun c2 => ?_)
  · refine jr_ic rfl ?_
    refine jr_goto rfl ?_
    refine jr_zret rfl rfl rfl (Nat.zero_le _) (Nat.zero_le _) ?_
    rw [if_pos (by rw [jn_eq (show nI c = nI 59 from c2) (by omega) (by decide)]; decide)] at k
    exact k
  · refine jr_iload rfl rfl ?_
    refine jr_ic rfl ?_
    refine jr_icmp_eq rfl (fun c5 => ?_) (fun c5 => ?_)
    · refine jr_ic rfl ?_
      refine jr_goto rfl ?_
      refine jr_zret rfl rfl rfl (Nat.zero_le _) (Nat.zero_le _) ?_
      rw [if_pos (by rw [jn_eq (show nI c = nI 40 from c5) (by omega) (by decide)]; decide)] at k
      exact k
    · refine jr_iload rfl rfl ?_
      refine jr_ic rfl ?_
      refine jr_icmp_eq rfl (fun c8 => ?_) (fun c8 => ?_)
      · refine jr_ic rfl ?_
        refine jr_goto rfl ?_
        refine jr_zret rfl rfl rfl (Nat.zero_le _) (Nat.zero_le _) ?_
        rw [if_pos (by rw [jn_eq (show nI c = nI 41 from c8) (by omega) (by decide)]; decide)] at k
        exact k
      · refine jr_iload rfl rfl ?_
        refine jr_ic rfl ?_
        refine jr_icmp_eq rfl (fun c11 => ?_) (fun c11 => ?_)
        · refine jr_ic rfl ?_
          refine jr_goto rfl ?_
          refine jr_zret rfl rfl rfl (Nat.zero_le _) (Nat.zero_le _) ?_
          rw [if_pos (by rw [jn_eq (show nI c = nI 60 from c11) (by omega) (by decide)]; decide)] at k
          exact k
        · refine jr_iload rfl rfl ?_
          refine jr_ic rfl ?_
          refine jr_icmp_eq rfl (fun c14 => ?_) (fun c14 => ?_)
          · refine jr_ic rfl ?_
            refine jr_goto rfl ?_
            refine jr_zret rfl rfl rfl (Nat.zero_le _) (Nat.zero_le _) ?_
            rw [if_pos (by rw [jn_eq (show nI c = nI 62 from c14) (by omega) (by decide)]; decide)] at k
            exact k
          · refine jr_iload rfl rfl ?_
            refine jr_ic rfl ?_
            refine jr_icmp_eq rfl (fun c17 => ?_) (fun c17 => ?_)
            · refine jr_ic rfl ?_
              refine jr_goto rfl ?_
              refine jr_zret rfl rfl rfl (Nat.zero_le _) (Nat.zero_le _) ?_
              rw [if_pos (by rw [jn_eq (show nI c = nI 61 from c17) (by omega) (by decide)]; decide)] at k
              exact k
            · refine jr_iload rfl rfl ?_
              refine jr_ic rfl ?_
              refine jr_icmp_eq rfl (fun c20 => ?_) (fun c20 => ?_)
              · refine jr_ic rfl ?_
                refine jr_goto rfl ?_
                refine jr_zret rfl rfl rfl (Nat.zero_le _) (Nat.zero_le _) ?_
                rw [if_pos (by rw [jn_eq (show nI c = nI 43 from c20) (by omega) (by decide)]; decide)] at k
                exact k
              · refine jr_iload rfl rfl ?_
                refine jr_ic rfl ?_
                refine jr_icmp_eq rfl (fun c23 => ?_) (fun c23 => ?_)
                · refine jr_ic rfl ?_
                  refine jr_goto rfl ?_
                  refine jr_zret rfl rfl rfl (Nat.zero_le _) (Nat.zero_le _) ?_
                  rw [if_pos (by rw [jn_eq (show nI c = nI 45 from c23) (by omega) (by decide)]; decide)] at k
                  exact k
                · refine jr_iload rfl rfl ?_
                  refine jr_ic rfl ?_
                  refine jr_icmp_eq rfl (fun c26 => ?_) (fun c26 => ?_)
                  · refine jr_ic rfl ?_
                    refine jr_goto rfl ?_
                    refine jr_zret rfl rfl rfl (Nat.zero_le _) (Nat.zero_le _) ?_
                    rw [if_pos (by rw [jn_eq (show nI c = nI 42 from c26) (by omega) (by decide)]; decide)] at k
                    exact k
                  · refine jr_iload rfl rfl ?_
                    refine jr_ic rfl ?_
                    refine jr_icmp_eq rfl (fun c29 => ?_) (fun c29 => ?_)
                    · refine jr_ic rfl ?_
                      refine jr_goto rfl ?_
                      refine jr_zret rfl rfl rfl (Nat.zero_le _) (Nat.zero_le _) ?_
                      rw [if_pos (by rw [jn_eq (show nI c = nI 47 from c29) (by omega) (by decide)]; decide)] at k
                      exact k
                    · refine jr_iload rfl rfl ?_
                      refine jr_ic rfl ?_
                      refine jr_icmp_ne rfl (fun c32 => ?_) (fun c32 => ?_)
                      · refine jr_ic rfl ?_
                        refine jr_zret rfl rfl rfl (Nat.zero_le _) (Nat.zero_le _) ?_
                        rw [if_neg ?_] at k
                        · exact k
                        intro z
                        have z2 := List.contains_iff_mem.mp z
                        simp only [List.mem_cons, List.not_mem_nil, or_false] at z2
                        rcases z2 with z | z | z | z | z | z | z | z | z | z | z
                        · exact c2 (by rw [z]; rfl)
                        · exact c5 (by rw [z]; rfl)
                        · exact c8 (by rw [z]; rfl)
                        · exact c11 (by rw [z]; rfl)
                        · exact c14 (by rw [z]; rfl)
                        · exact c17 (by rw [z]; rfl)
                        · exact c20 (by rw [z]; rfl)
                        · exact c23 (by rw [z]; rfl)
                        · exact c26 (by rw [z]; rfl)
                        · exact c29 (by rw [z]; rfl)
                        · exact c32 (by rw [z]; rfl)
                      · refine jr_ic rfl ?_
                        refine jr_goto rfl ?_
                        refine jr_zret rfl rfl rfl (Nat.zero_le _) (Nat.zero_le _) ?_
                        rw [if_pos (by rw [jn_eq (show nI c = nI 37 from c32) (by omega) (by decide)]; decide)] at k
                        exact k

set_option maxHeartbeats 800000 in
set_option maxRecDepth 100000 in
theorem lp_kw3 {d n0 : Nat} {Q : Option jx_V → jx_H → Prop} {h : jx_H} {w : List Nat} {v1 v2 : Int32} (hw : jT_letters w) (hl : w.length ≤ 8) (h1 : ¬ v1 = 0 → jT_ix w < 29) (g1 : v1 = 0 → jT_ix w ≠ 0 ∧ jT_ix w ≠ 7 ∧ jT_ix w ≠ 8 ∧ jT_ix w ≠ 9 ∧ jT_ix w ≠ 10 ∧ jT_ix w ≠ 11 ∧ jT_ix w ≠ 12 ∧ jT_ix w ≠ 13 ∧ jT_ix w ≠ 14 ∧ jT_ix w ≠ 15) (h2 : ¬ v2 = 0 → jT_ix w < 29) (g2 : v2 = 0 → jT_ix w ≠ 16 ∧ jT_ix w ≠ 17 ∧ jT_ix w ≠ 18 ∧ jT_ix w ≠ 19 ∧ jT_ix w ≠ 20 ∧ jT_ix w ≠ 21 ∧ jT_ix w ≠ 22 ∧ jT_ix w ≠ 23 ∧ jT_ix w ≠ 24 ∧ jT_ix w ≠ 25) (k : Q (some (jv_i (if jT_ix w < 29 then 1 else 0))) h)  : jx_W (jm_MD_isKept, d, 0, 0, false, 1, n0) Q 0 0 88 [some (jv_l (jT_key w)), none, some (jv_i v1), some (jv_i v2)] [] h := by
  refine jr_iload rfl rfl ?_
  refine jr_if_ne rfl (fun c89 => ?_) (fun c89 => ?_)
  · refine jr_ic rfl ?_
    refine jr_goto rfl ?_
    refine jr_zret rfl rfl rfl (Nat.zero_le _) (Nat.zero_le _) ?_
    rw [if_pos (h1 c89)] at k
    exact k
  · refine jr_iload rfl rfl ?_
    refine jr_if_ne rfl (fun c91 => ?_) (fun c91 => ?_)
    · refine jr_ic rfl ?_
      refine jr_goto rfl ?_
      refine jr_zret rfl rfl rfl (Nat.zero_le _) (Nat.zero_le _) ?_
      rw [if_pos (h2 c91)] at k
      exact k
    · refine jr_lload rfl rfl ?_
      refine jr_lc rfl ?_
      refine jr_lcmp rfl ?_
      refine jr_if_eq rfl (fun c95 => ?_) (fun c95 => ?_)
      · refine jr_ic rfl ?_
        refine jr_goto rfl ?_
        refine jr_zret rfl rfl rfl (Nat.zero_le _) (Nat.zero_le _) ?_
        rw [if_pos (by rw [((jT_ix_key8 hw hl (by decide)).mp ((lg_cmp0 c95).trans jT_W26))]; decide)] at k
        exact k
      · refine jr_lload rfl rfl ?_
        refine jr_lc rfl ?_
        refine jr_lcmp rfl ?_
        refine jr_if_eq rfl (fun c99 => ?_) (fun c99 => ?_)
        · refine jr_ic rfl ?_
          refine jr_goto rfl ?_
          refine jr_zret rfl rfl rfl (Nat.zero_le _) (Nat.zero_le _) ?_
          rw [if_pos (by rw [((jT_ix_key8 hw hl (by decide)).mp ((lg_cmp0 c99).trans jT_W27))]; decide)] at k
          exact k
        · refine jr_lload rfl rfl ?_
          refine jr_lc rfl ?_
          refine jr_lcmp rfl ?_
          refine jr_if_eq rfl (fun c103 => ?_) (fun c103 => ?_)
          · refine jr_ic rfl ?_
            refine jr_goto rfl ?_
            refine jr_zret rfl rfl rfl (Nat.zero_le _) (Nat.zero_le _) ?_
            rw [if_pos (by rw [((jT_ix_key8 hw hl (by decide)).mp ((lg_cmp0 c103).trans jT_W28))]; decide)] at k
            exact k
          · refine jr_lload rfl rfl ?_
            refine jr_lc rfl ?_
            refine jr_lcmp rfl ?_
            refine jr_if_eq rfl (fun c107 => ?_) (fun c107 => ?_)
            · refine jr_ic rfl ?_
              refine jr_goto rfl ?_
              refine jr_zret rfl rfl rfl (Nat.zero_le _) (Nat.zero_le _) ?_
              rw [if_pos (by rw [((jT_ix_key8 hw hl (by decide)).mp ((lg_cmp0 c107).trans jT_W1))]; decide)] at k
              exact k
            · refine jr_lload rfl rfl ?_
              refine jr_lc rfl ?_
              refine jr_lcmp rfl ?_
              refine jr_if_eq rfl (fun c111 => ?_) (fun c111 => ?_)
              · refine jr_ic rfl ?_
                refine jr_goto rfl ?_
                refine jr_zret rfl rfl rfl (Nat.zero_le _) (Nat.zero_le _) ?_
                rw [if_pos (by rw [((jT_ix_key8 hw hl (by decide)).mp ((lg_cmp0 c111).trans jT_W2))]; decide)] at k
                exact k
              · refine jr_lload rfl rfl ?_
                refine jr_lc rfl ?_
                refine jr_lcmp rfl ?_
                refine jr_if_eq rfl (fun c115 => ?_) (fun c115 => ?_)
                · refine jr_ic rfl ?_
                  refine jr_goto rfl ?_
                  refine jr_zret rfl rfl rfl (Nat.zero_le _) (Nat.zero_le _) ?_
                  rw [if_pos (by rw [((jT_ix_key8 hw hl (by decide)).mp ((lg_cmp0 c115).trans jT_W3))]; decide)] at k
                  exact k
                · refine jr_lload rfl rfl ?_
                  refine jr_lc rfl ?_
                  refine jr_lcmp rfl ?_
                  refine jr_if_eq rfl (fun c119 => ?_) (fun c119 => ?_)
                  · refine jr_ic rfl ?_
                    refine jr_goto rfl ?_
                    refine jr_zret rfl rfl rfl (Nat.zero_le _) (Nat.zero_le _) ?_
                    rw [if_pos (by rw [((jT_ix_key8 hw hl (by decide)).mp ((lg_cmp0 c119).trans jT_W4))]; decide)] at k
                    exact k
                  · refine jr_lload rfl rfl ?_
                    refine jr_lc rfl ?_
                    refine jr_lcmp rfl ?_
                    refine jr_if_eq rfl (fun c123 => ?_) (fun c123 => ?_)
                    · refine jr_ic rfl ?_
                      refine jr_goto rfl ?_
                      refine jr_zret rfl rfl rfl (Nat.zero_le _) (Nat.zero_le _) ?_
                      rw [if_pos (by rw [((jT_ix_key8 hw hl (by decide)).mp ((lg_cmp0 c123).trans jT_W5))]; decide)] at k
                      exact k
                    · refine jr_lload rfl rfl ?_
                      refine jr_lc rfl ?_
                      refine jr_lcmp rfl ?_
                      refine jr_if_ne rfl (fun c127 => ?_) (fun c127 => ?_)
                      · refine jr_ic rfl ?_
                        refine jr_zret rfl rfl rfl (Nat.zero_le _) (Nat.zero_le _) ?_
                        rw [if_neg ?_] at k
                        · exact k
                        intro z
                        have g1 := g1 c89
                        have g2 := g2 c91
                        have n26 : jT_ix w ≠ 26 := (fun z => c95 (lg_cmp1 (((jT_ix_key8 hw hl (by decide)).mpr z).trans jT_W26.symm)))
                        have n27 : jT_ix w ≠ 27 := (fun z => c99 (lg_cmp1 (((jT_ix_key8 hw hl (by decide)).mpr z).trans jT_W27.symm)))
                        have n28 : jT_ix w ≠ 28 := (fun z => c103 (lg_cmp1 (((jT_ix_key8 hw hl (by decide)).mpr z).trans jT_W28.symm)))
                        have n1 : jT_ix w ≠ 1 := (fun z => c107 (lg_cmp1 (((jT_ix_key8 hw hl (by decide)).mpr z).trans jT_W1.symm)))
                        have n2 : jT_ix w ≠ 2 := (fun z => c111 (lg_cmp1 (((jT_ix_key8 hw hl (by decide)).mpr z).trans jT_W2.symm)))
                        have n3 : jT_ix w ≠ 3 := (fun z => c115 (lg_cmp1 (((jT_ix_key8 hw hl (by decide)).mpr z).trans jT_W3.symm)))
                        have n4 : jT_ix w ≠ 4 := (fun z => c119 (lg_cmp1 (((jT_ix_key8 hw hl (by decide)).mpr z).trans jT_W4.symm)))
                        have n5 : jT_ix w ≠ 5 := (fun z => c123 (lg_cmp1 (((jT_ix_key8 hw hl (by decide)).mpr z).trans jT_W5.symm)))
                        have n6 : jT_ix w ≠ 6 := (fun z => c127 (lg_cmp1 (((jT_ix_key8 hw hl (by decide)).mpr z).trans jT_W6.symm)))
                        omega
                      · refine jr_ic rfl ?_
                        refine jr_goto rfl ?_
                        refine jr_zret rfl rfl rfl (Nat.zero_le _) (Nat.zero_le _) ?_
                        rw [if_pos (by rw [((jT_ix_key8 hw hl (by decide)).mp ((lg_cmp0 c127).trans jT_W6))]; decide)] at k
                        exact k

set_option maxHeartbeats 800000 in
set_option maxRecDepth 100000 in
theorem lp_kw2 {d n0 : Nat} {Q : Option jx_V → jx_H → Prop} {h : jx_H} {w : List Nat} {v1 : Int32} (hw : jT_letters w) (hl : w.length ≤ 8) (h1 : ¬ v1 = 0 → jT_ix w < 29) (g1 : v1 = 0 → jT_ix w ≠ 0 ∧ jT_ix w ≠ 7 ∧ jT_ix w ≠ 8 ∧ jT_ix w ≠ 9 ∧ jT_ix w ≠ 10 ∧ jT_ix w ≠ 11 ∧ jT_ix w ≠ 12 ∧ jT_ix w ≠ 13 ∧ jT_ix w ≠ 14 ∧ jT_ix w ≠ 15) (k : Q (some (jv_i (if jT_ix w < 29 then 1 else 0))) h)  : jx_W (jm_MD_isKept, d, 0, 0, false, 1, n0) Q 0 0 44 [some (jv_l (jT_key w)), none, some (jv_i v1), none] [] h := by
  refine jr_lload rfl rfl ?_
  refine jr_lc rfl ?_
  refine jr_lcmp rfl ?_
  refine jr_if_eq rfl (fun c47 => ?_) (fun c47 => ?_)
  · refine jr_ic rfl ?_
    refine jr_goto rfl ?_
    refine jr_ist3 rfl rfl ?_
    exact lp_kw3 hw hl h1 g1 (fun _ => by rw [((jT_ix_key8 hw hl (by decide)).mp ((lg_cmp0 c47).trans jT_W16))]; decide) (fun z => absurd z (by decide)) k
  · refine jr_lload rfl rfl ?_
    refine jr_lc rfl ?_
    refine jr_lcmp rfl ?_
    refine jr_if_eq rfl (fun c51 => ?_) (fun c51 => ?_)
    · refine jr_ic rfl ?_
      refine jr_goto rfl ?_
      refine jr_ist3 rfl rfl ?_
      exact lp_kw3 hw hl h1 g1 (fun _ => by rw [((jT_ix_key8 hw hl (by decide)).mp ((lg_cmp0 c51).trans jT_W17))]; decide) (fun z => absurd z (by decide)) k
    · refine jr_lload rfl rfl ?_
      refine jr_lc rfl ?_
      refine jr_lcmp rfl ?_
      refine jr_if_eq rfl (fun c55 => ?_) (fun c55 => ?_)
      · refine jr_ic rfl ?_
        refine jr_goto rfl ?_
        refine jr_ist3 rfl rfl ?_
        exact lp_kw3 hw hl h1 g1 (fun _ => by rw [((jT_ix_key8 hw hl (by decide)).mp ((lg_cmp0 c55).trans jT_W18))]; decide) (fun z => absurd z (by decide)) k
      · refine jr_lload rfl rfl ?_
        refine jr_lc rfl ?_
        refine jr_lcmp rfl ?_
        refine jr_if_eq rfl (fun c59 => ?_) (fun c59 => ?_)
        · refine jr_ic rfl ?_
          refine jr_goto rfl ?_
          refine jr_ist3 rfl rfl ?_
          exact lp_kw3 hw hl h1 g1 (fun _ => by rw [((jT_ix_key8 hw hl (by decide)).mp ((lg_cmp0 c59).trans jT_W19))]; decide) (fun z => absurd z (by decide)) k
        · refine jr_lload rfl rfl ?_
          refine jr_lc rfl ?_
          refine jr_lcmp rfl ?_
          refine jr_if_eq rfl (fun c63 => ?_) (fun c63 => ?_)
          · refine jr_ic rfl ?_
            refine jr_goto rfl ?_
            refine jr_ist3 rfl rfl ?_
            exact lp_kw3 hw hl h1 g1 (fun _ => by rw [((jT_ix_key8 hw hl (by decide)).mp ((lg_cmp0 c63).trans jT_W20))]; decide) (fun z => absurd z (by decide)) k
          · refine jr_lload rfl rfl ?_
            refine jr_lc rfl ?_
            refine jr_lcmp rfl ?_
            refine jr_if_eq rfl (fun c67 => ?_) (fun c67 => ?_)
            · refine jr_ic rfl ?_
              refine jr_goto rfl ?_
              refine jr_ist3 rfl rfl ?_
              exact lp_kw3 hw hl h1 g1 (fun _ => by rw [((jT_ix_key8 hw hl (by decide)).mp ((lg_cmp0 c67).trans jT_W21))]; decide) (fun z => absurd z (by decide)) k
            · refine jr_lload rfl rfl ?_
              refine jr_lc rfl ?_
              refine jr_lcmp rfl ?_
              refine jr_if_eq rfl (fun c71 => ?_) (fun c71 => ?_)
              · refine jr_ic rfl ?_
                refine jr_goto rfl ?_
                refine jr_ist3 rfl rfl ?_
                exact lp_kw3 hw hl h1 g1 (fun _ => by rw [((jT_ix_key8 hw hl (by decide)).mp ((lg_cmp0 c71).trans jT_W22))]; decide) (fun z => absurd z (by decide)) k
              · refine jr_lload rfl rfl ?_
                refine jr_lc rfl ?_
                refine jr_lcmp rfl ?_
                refine jr_if_eq rfl (fun c75 => ?_) (fun c75 => ?_)
                · refine jr_ic rfl ?_
                  refine jr_goto rfl ?_
                  refine jr_ist3 rfl rfl ?_
                  exact lp_kw3 hw hl h1 g1 (fun _ => by rw [((jT_ix_key8 hw hl (by decide)).mp ((lg_cmp0 c75).trans jT_W23))]; decide) (fun z => absurd z (by decide)) k
                · refine jr_lload rfl rfl ?_
                  refine jr_lc rfl ?_
                  refine jr_lcmp rfl ?_
                  refine jr_if_eq rfl (fun c79 => ?_) (fun c79 => ?_)
                  · refine jr_ic rfl ?_
                    refine jr_goto rfl ?_
                    refine jr_ist3 rfl rfl ?_
                    exact lp_kw3 hw hl h1 g1 (fun _ => by rw [((jT_ix_key8 hw hl (by decide)).mp ((lg_cmp0 c79).trans jT_W24))]; decide) (fun z => absurd z (by decide)) k
                  · refine jr_lload rfl rfl ?_
                    refine jr_lc rfl ?_
                    refine jr_lcmp rfl ?_
                    refine jr_if_ne rfl (fun c83 => ?_) (fun c83 => ?_)
                    · refine jr_ic rfl ?_
                      refine jr_ist3 rfl rfl ?_
                      exact lp_kw3 hw hl h1 g1 (fun z => absurd rfl z) (fun _ => ⟨(fun z => c47 (lg_cmp1 (((jT_ix_key8 hw hl (by decide)).mpr z).trans jT_W16.symm))), (fun z => c51 (lg_cmp1 (((jT_ix_key8 hw hl (by decide)).mpr z).trans jT_W17.symm))), (fun z => c55 (lg_cmp1 (((jT_ix_key8 hw hl (by decide)).mpr z).trans jT_W18.symm))), (fun z => c59 (lg_cmp1 (((jT_ix_key8 hw hl (by decide)).mpr z).trans jT_W19.symm))), (fun z => c63 (lg_cmp1 (((jT_ix_key8 hw hl (by decide)).mpr z).trans jT_W20.symm))), (fun z => c67 (lg_cmp1 (((jT_ix_key8 hw hl (by decide)).mpr z).trans jT_W21.symm))), (fun z => c71 (lg_cmp1 (((jT_ix_key8 hw hl (by decide)).mpr z).trans jT_W22.symm))), (fun z => c75 (lg_cmp1 (((jT_ix_key8 hw hl (by decide)).mpr z).trans jT_W23.symm))), (fun z => c79 (lg_cmp1 (((jT_ix_key8 hw hl (by decide)).mpr z).trans jT_W24.symm))), (fun z => c83 (lg_cmp1 (((jT_ix_key8 hw hl (by decide)).mpr z).trans jT_W25.symm)))⟩) k
                    · refine jr_ic rfl ?_
                      refine jr_goto rfl ?_
                      refine jr_ist3 rfl rfl ?_
                      exact lp_kw3 hw hl h1 g1 (fun _ => by rw [((jT_ix_key8 hw hl (by decide)).mp ((lg_cmp0 c83).trans jT_W25))]; decide) (fun z => absurd z (by decide)) k

set_option maxHeartbeats 800000 in
set_option maxRecDepth 100000 in
theorem eM_isKept {d : Nat} {h : jx_H} {Q : Option jx_V → jx_H → Prop} {w : List Nat} (hw : jT_letters w) (hl : w.length ≤ 8) (k : Q (some (jv_i (if jT_ix w < 29 then 1 else 0))) h)  : jx_Ev jm_MD_isKept (d) 0 0 false 1 [jv_l (jT_key w)] h Q := by
  show jx_W (jm_MD_isKept, d, 0, 0, false, 1, _) Q 0 0 0 [some (jv_l (jT_key w)), none, none, none] [] _
  refine jr_lload rfl rfl ?_
  refine jr_lc rfl ?_
  refine jr_lcmp rfl ?_
  refine jr_if_eq rfl (fun c3 => ?_) (fun c3 => ?_)
  · refine jr_ic rfl ?_
    refine jr_goto rfl ?_
    refine jr_ist2 rfl rfl ?_
    exact lp_kw2 hw hl (fun _ => by rw [((jT_ix_key8 hw hl (by decide)).mp ((lg_cmp0 c3).trans jT_W0))]; decide) (fun z => absurd z (by decide)) k
  · refine jr_lload rfl rfl ?_
    refine jr_lc rfl ?_
    refine jr_lcmp rfl ?_
    refine jr_if_eq rfl (fun c7 => ?_) (fun c7 => ?_)
    · refine jr_ic rfl ?_
      refine jr_goto rfl ?_
      refine jr_ist2 rfl rfl ?_
      exact lp_kw2 hw hl (fun _ => by rw [((jT_ix_key8 hw hl (by decide)).mp ((lg_cmp0 c7).trans jT_W7))]; decide) (fun z => absurd z (by decide)) k
    · refine jr_lload rfl rfl ?_
      refine jr_lc rfl ?_
      refine jr_lcmp rfl ?_
      refine jr_if_eq rfl (fun c11 => ?_) (fun c11 => ?_)
      · refine jr_ic rfl ?_
        refine jr_goto rfl ?_
        refine jr_ist2 rfl rfl ?_
        exact lp_kw2 hw hl (fun _ => by rw [((jT_ix_key8 hw hl (by decide)).mp ((lg_cmp0 c11).trans jT_W8))]; decide) (fun z => absurd z (by decide)) k
      · refine jr_lload rfl rfl ?_
        refine jr_lc rfl ?_
        refine jr_lcmp rfl ?_
        refine jr_if_eq rfl (fun c15 => ?_) (fun c15 => ?_)
        · refine jr_ic rfl ?_
          refine jr_goto rfl ?_
          refine jr_ist2 rfl rfl ?_
          exact lp_kw2 hw hl (fun _ => by rw [((jT_ix_key8 hw hl (by decide)).mp ((lg_cmp0 c15).trans jT_W9))]; decide) (fun z => absurd z (by decide)) k
        · refine jr_lload rfl rfl ?_
          refine jr_lc rfl ?_
          refine jr_lcmp rfl ?_
          refine jr_if_eq rfl (fun c19 => ?_) (fun c19 => ?_)
          · refine jr_ic rfl ?_
            refine jr_goto rfl ?_
            refine jr_ist2 rfl rfl ?_
            exact lp_kw2 hw hl (fun _ => by rw [((jT_ix_key8 hw hl (by decide)).mp ((lg_cmp0 c19).trans jT_W10))]; decide) (fun z => absurd z (by decide)) k
          · refine jr_lload rfl rfl ?_
            refine jr_lc rfl ?_
            refine jr_lcmp rfl ?_
            refine jr_if_eq rfl (fun c23 => ?_) (fun c23 => ?_)
            · refine jr_ic rfl ?_
              refine jr_goto rfl ?_
              refine jr_ist2 rfl rfl ?_
              exact lp_kw2 hw hl (fun _ => by rw [((jT_ix_key8 hw hl (by decide)).mp ((lg_cmp0 c23).trans jT_W11))]; decide) (fun z => absurd z (by decide)) k
            · refine jr_lload rfl rfl ?_
              refine jr_lc rfl ?_
              refine jr_lcmp rfl ?_
              refine jr_if_eq rfl (fun c27 => ?_) (fun c27 => ?_)
              · refine jr_ic rfl ?_
                refine jr_goto rfl ?_
                refine jr_ist2 rfl rfl ?_
                exact lp_kw2 hw hl (fun _ => by rw [((jT_ix_key8 hw hl (by decide)).mp ((lg_cmp0 c27).trans jT_W12))]; decide) (fun z => absurd z (by decide)) k
              · refine jr_lload rfl rfl ?_
                refine jr_lc rfl ?_
                refine jr_lcmp rfl ?_
                refine jr_if_eq rfl (fun c31 => ?_) (fun c31 => ?_)
                · refine jr_ic rfl ?_
                  refine jr_goto rfl ?_
                  refine jr_ist2 rfl rfl ?_
                  exact lp_kw2 hw hl (fun _ => by rw [((jT_ix_key8 hw hl (by decide)).mp ((lg_cmp0 c31).trans jT_W13))]; decide) (fun z => absurd z (by decide)) k
                · refine jr_lload rfl rfl ?_
                  refine jr_lc rfl ?_
                  refine jr_lcmp rfl ?_
                  refine jr_if_eq rfl (fun c35 => ?_) (fun c35 => ?_)
                  · refine jr_ic rfl ?_
                    refine jr_goto rfl ?_
                    refine jr_ist2 rfl rfl ?_
                    exact lp_kw2 hw hl (fun _ => by rw [((jT_ix_key8 hw hl (by decide)).mp ((lg_cmp0 c35).trans jT_W14))]; decide) (fun z => absurd z (by decide)) k
                  · refine jr_lload rfl rfl ?_
                    refine jr_lc rfl ?_
                    refine jr_lcmp rfl ?_
                    refine jr_if_ne rfl (fun c39 => ?_) (fun c39 => ?_)
                    · refine jr_ic rfl ?_
                      refine jr_ist2 rfl rfl ?_
                      exact lp_kw2 hw hl (fun z => absurd rfl z) (fun _ => ⟨(fun z => c3 (lg_cmp1 (((jT_ix_key8 hw hl (by decide)).mpr z).trans jT_W0.symm))), (fun z => c7 (lg_cmp1 (((jT_ix_key8 hw hl (by decide)).mpr z).trans jT_W7.symm))), (fun z => c11 (lg_cmp1 (((jT_ix_key8 hw hl (by decide)).mpr z).trans jT_W8.symm))), (fun z => c15 (lg_cmp1 (((jT_ix_key8 hw hl (by decide)).mpr z).trans jT_W9.symm))), (fun z => c19 (lg_cmp1 (((jT_ix_key8 hw hl (by decide)).mpr z).trans jT_W10.symm))), (fun z => c23 (lg_cmp1 (((jT_ix_key8 hw hl (by decide)).mpr z).trans jT_W11.symm))), (fun z => c27 (lg_cmp1 (((jT_ix_key8 hw hl (by decide)).mpr z).trans jT_W12.symm))), (fun z => c31 (lg_cmp1 (((jT_ix_key8 hw hl (by decide)).mpr z).trans jT_W13.symm))), (fun z => c35 (lg_cmp1 (((jT_ix_key8 hw hl (by decide)).mpr z).trans jT_W14.symm))), (fun z => c39 (lg_cmp1 (((jT_ix_key8 hw hl (by decide)).mpr z).trans jT_W15.symm)))⟩) k
                    · refine jr_ic rfl ?_
                      refine jr_goto rfl ?_
                      refine jr_ist2 rfl rfl ?_
                      exact lp_kw2 hw hl (fun _ => by rw [((jT_ix_key8 hw hl (by decide)).mp ((lg_cmp0 c39).trans jT_W15))]; decide) (fun z => absurd z (by decide)) k

set_option maxHeartbeats 800000 in
set_option maxRecDepth 100000 in
theorem lp_go1 {d n0 : Nat} {Q : Option jx_V → jx_H → Prop} {h : jx_H} {G : Nat → Int64} {B : Nat → Int32} {sz : Nat} (F : Nat → Int32) (i : Nat) (hS : F 3 = nI sz) (hsz : sz ≤ 1700) (hB : jT_c (jh_I h 65 0) sz = jT_c B sz) (h6 : F 6 = nI i) (hi : i ≤ sz) (k : ∀ F' : Nat → Int32, (∀ f, f ≠ 6 → F' f = F f) → F' 6 = nI (jT_a B sz i) → jx_W (jm_MD_goOn, d + 3, 0, 0, false, 1, n0) Q 0 0 28 [some (jv_r 11 0), none, none] [] (jM h F' G))  : jx_W (jm_MD_goOn, d + 3, 0, 0, false, 1, n0) Q 0 0 4 [some (jv_r 11 0), none, none] [] (jM h F G) := by
  refine jr_aload rfl rfl ?_
  refine jr_getI rfl rfl ?_
  refine jr_aload rfl rfl ?_
  refine jr_getI rfl rfl ?_
  rw [show jh_I (jM h F G) 11 0 3 = nI sz from hS, show jh_I (jM h F G) 11 0 6 = nI i from h6]
  refine jr_icmp_ge rfl (fun c8 => ?_) (fun c8 => ?_)
  · have hi1 : sz ≤ i := jn_le (show nI sz ≤ nI i from c8) (by omega) (by omega)
    exact k F (fun _ _ => rfl) (by rw [h6]; unfold jT_a; rw [jT_run_0 hi1])
  · have hi1 : i < sz := jn_nle (show ¬ nI sz ≤ nI i from c8) (by omega) (by omega)
    refine jr_aload rfl rfl ?_
    refine jr_aload rfl rfl ?_
    refine jr_getI rfl rfl ?_
    rw [show jh_I (jM h F G) 11 0 6 = nI i from h6]
    refine jr_cv1 (mc' := 0) (ms' := 0) rfl jm_MD_sign_n jm_MD_sign_f rfl rfl rfl rfl rfl rfl rfl (Nat.zero_le _) (Nat.zero_le _) ?_
    refine eM_sign (B := B) hS hsz hB (by omega) ?_
    refine jr_ic rfl ?_
    refine jr_icmp_eq rfl (fun c14 => ?_) (fun c14 => ?_)
    · refine jr_aload rfl rfl ?_
      refine jr_dup_r rfl ?_
      refine jr_getI rfl rfl ?_
      refine jr_ic rfl ?_
      refine jr_iadd rfl ?_
      refine jr_putI rfl rfl ?_
      simp only [jM_I, jM_rI, jM_L, jM_rL]
      refine jr_goto rfl ?_
      have hb : jT_b (jT_c B sz i) = true := jT_b_iff.mpr (Or.inl (jn_eq (show nI (jT_c B sz i) = nI 32 from c14) (by have := jT_c_lt B sz i; omega) (by decide)))
      refine lp_go1 _ (i + 1) hS hsz hB (by rw [show upd F 6 (F 6 + 1) 6 = F 6 + 1 from jg_us _ _ _, h6, jn_S]) (by omega) (fun F' f' e6 => k F' (fun f hf => (f' f hf).trans (jg_un hf)) ?_)
      rw [e6]
      unfold jT_a
      rw [jT_run_s hi1, if_pos hb]
    · refine jr_aload rfl rfl ?_
      refine jr_aload rfl rfl ?_
      refine jr_getI rfl rfl ?_
      rw [show jh_I (jM h F G) 11 0 6 = nI i from h6]
      refine jr_cv1 (mc' := 0) (ms' := 0) rfl jm_MD_sign_n jm_MD_sign_f rfl rfl rfl rfl rfl rfl rfl (Nat.zero_le _) (Nat.zero_le _) ?_
      refine eM_sign (B := B) hS hsz hB (by omega) ?_
      refine jr_ic rfl ?_
      refine jr_icmp_ne rfl (fun c20 => ?_) (fun c20 => ?_)
      · exact k F (fun _ _ => rfl) (by rw [h6]; unfold jT_a; rw [jT_run_s hi1, if_neg (fun z => (jT_b_iff.mp z).elim (fun y => c14 (by rw [y]; rfl)) (fun y => c20 (by rw [y]; rfl)))])
      · refine jr_aload rfl rfl ?_
        refine jr_dup_r rfl ?_
        refine jr_getI rfl rfl ?_
        refine jr_ic rfl ?_
        refine jr_iadd rfl ?_
        refine jr_putI rfl rfl ?_
        simp only [jM_I, jM_rI, jM_L, jM_rL]
        refine jr_goto rfl ?_
        have hb : jT_b (jT_c B sz i) = true := jT_b_iff.mpr (Or.inr (jn_eq (show nI (jT_c B sz i) = nI 10 from c20) (by have := jT_c_lt B sz i; omega) (by decide)))
        refine lp_go1 _ (i + 1) hS hsz hB (by rw [show upd F 6 (F 6 + 1) 6 = F 6 + 1 from jg_us _ _ _, h6, jn_S]) (by omega) (fun F' f' e6 => k F' (fun f hf => (f' f hf).trans (jg_un hf)) ?_)
        rw [e6]
        unfold jT_a
        rw [jT_run_s hi1, if_pos hb]
termination_by sz - i
decreasing_by all_goals omega

set_option maxHeartbeats 800000 in
set_option maxRecDepth 100000 in
theorem lp_go2 {d n0 : Nat} {Q : Option jx_V → jx_H → Prop} {h : jx_H} {G : Nat → Int64} {B : Nat → Int32} {sz : Nat} {x1 : Int32} (F : Nat → Int32) (i : Nat) (hS : F 3 = nI sz) (hsz : sz ≤ 1700) (hB : jT_c (jh_I h 65 0) sz = jT_c B sz) (h7 : F 7 = nI i) (hi : i ≤ sz) (k : ∀ F' : Nat → Int32, (∀ f, f ≠ 7 → F' f = F f) → F' 7 = nI (jT_run (fun i => jT_l (jT_c B sz i)) (sz - i) i) → jx_W (jm_MD_goOn, d + 3, 0, 0, false, 1, n0) Q 0 0 72 [some (jv_r 11 0), some (jv_i x1), none] [] (jM h F' G))  : jx_W (jm_MD_goOn, d + 3, 0, 0, false, 1, n0) Q 0 0 59 [some (jv_r 11 0), some (jv_i x1), none] [] (jM h F G) := by
  refine jr_aload rfl rfl ?_
  refine jr_aload rfl rfl ?_
  refine jr_getI rfl rfl ?_
  rw [show jh_I (jM h F G) 11 0 7 = nI i from h7]
  refine jr_cv1 (mc' := 0) (ms' := 0) rfl jm_MD_sign_n jm_MD_sign_f rfl rfl rfl rfl rfl rfl rfl (Nat.zero_le _) (Nat.zero_le _) ?_
  refine eM_sign (B := B) hS hsz hB (by omega) ?_
  refine jr_cs1 (mc' := 0) (ms' := 0) rfl jm_MD_isLetter_n jm_MD_isLetter_f rfl rfl rfl rfl rfl (Nat.zero_le _) (Nat.zero_le _) ?_
  refine eM_isLetter (jT_c_lt _ _ _) ?_
  refine jr_if_eq rfl (fun c64 => ?_) (fun c64 => ?_)
  · refine k F (fun _ _ => rfl) ?_
    rw [h7]
    rcases Nat.lt_or_ge i sz with e | e
    · rw [jT_run_s e, if_neg (jf_0 c64)]
    · rw [jT_run_0 e]
  · have hi1 : i < sz := Decidable.byContradiction fun z => c64 (by rw [jT_c_0 (by omega)]; rfl)
    refine jr_aload rfl rfl ?_
    refine jr_dup_r rfl ?_
    refine jr_getI rfl rfl ?_
    refine jr_ic rfl ?_
    refine jr_iadd rfl ?_
    refine jr_putI rfl rfl ?_
    simp only [jM_I, jM_rI, jM_L, jM_rL]
    refine jr_goto rfl ?_
    refine lp_go2 _ (i + 1) hS hsz hB (by rw [show upd F 7 (F 7 + 1) 7 = F 7 + 1 from jg_us _ _ _, h7, jn_S]) (by omega) (fun F' f' e7 => k F' (fun f hf => (f' f hf).trans (jg_un hf)) ?_)
    rw [e7, jT_run_s hi1, if_pos (jf_1 c64)]
termination_by sz - i
decreasing_by all_goals omega

set_option maxHeartbeats 800000 in
set_option maxRecDepth 100000 in
theorem lp_go3 {d n0 : Nat} {Q : Option jx_V → jx_H → Prop} {h : jx_H} {F : Nat → Int32} {B : Nat → Int32} {sz : Nat} {x1 : Int32} {a e : Nat} (G : Nat → Int64) (j : Nat) (hS : F 3 = nI sz) (hsz : sz ≤ 1700) (hB : jT_c (jh_I h 65 0) sz = jT_c B sz) (h6 : F 6 = nI a) (h7 : F 7 = nI e) (he : e ≤ 1700) (hae : a ≤ e) (hj1 : j ≤ e) (hj2 : j ≤ a + 8) (k : ∀ G' : Nat → Int64, (e - a ≤ 8 → G' 10 = (jT_w (jT_c B sz) (e - j) j).foldl (fun (k : Int64) (c : Nat) => k <<< 8 ||| lN c) (G 10)) → ∀ x2 : Int32, jx_W (jm_MD_goOn, d + 3, 0, 0, false, 1, n0) Q 0 0 101 [some (jv_r 11 0), some (jv_i x1), some (jv_i x2)] [] (jM h F G'))  : jx_W (jm_MD_goOn, d + 3, 0, 0, false, 1, n0) Q 0 0 78 [some (jv_r 11 0), some (jv_i x1), some (jv_i (nI j))] [] (jM h F G) := by
  refine jr_iload rfl rfl ?_
  refine jr_aload rfl rfl ?_
  refine jr_getI rfl rfl ?_
  rw [show jh_I (jM h F G) 11 0 7 = nI e from h7]
  refine jr_icmp_ge rfl (fun c81 => ?_) (fun c81 => ?_)
  · have hj3 : j = e := by have := jn_le (show nI e ≤ nI j from c81) (by omega) (by omega); omega
    exact k G (fun _ => by rw [hj3, Nat.sub_self]; rfl) _
  · refine jr_iload rfl rfl ?_
    refine jr_aload rfl rfl ?_
    refine jr_getI rfl rfl ?_
    refine jr_ic rfl ?_
    refine jr_iadd rfl ?_
    rw [show jh_I (jM h F G) 11 0 6 + 8 = nI (a + 8) from jn_add h6 (jn_c 8)]
    refine jr_icmp_ge rfl (fun c87 => ?_) (fun c87 => ?_)
    · have hj3 : a + 8 ≤ j := jn_le (show nI (a + 8) ≤ nI j from c87) (by omega) (by omega)
      exact k G (fun z => by rw [show e - j = 0 by omega]; rfl) _
    · have hje : j < e := jn_nle (show ¬ nI e ≤ nI j from c81) (by omega) (by omega)
      refine jr_aload rfl rfl ?_
      refine jr_aload rfl rfl ?_
      refine jr_getL rfl rfl ?_
      refine jr_ic rfl ?_
      simp only [jM_I, jM_rI, jM_L, jM_rL]
      refine jr_lshl rfl ?_
      refine jr_aload rfl rfl ?_
      refine jr_iload rfl rfl ?_
      refine jr_cv1 (mc' := 0) (ms' := 0) rfl jm_MD_sign_n jm_MD_sign_f rfl rfl rfl rfl rfl rfl rfl (Nat.zero_le _) (Nat.zero_le _) ?_
      refine eM_sign (B := B) hS hsz hB (by omega) ?_
      skip
      refine jr_i2l rfl ?_
      refine jr_lor rfl ?_
      refine jr_putL rfl rfl ?_
      simp only [jM_I, jM_rI, jM_L, jM_rL]
      refine jr_iinc2 rfl rfl ?_
      refine jr_goto rfl ?_
      rw [jn_S]
      have hj3 : j < a + 8 := jn_nle (show ¬ nI (a + 8) ≤ nI j from c87) (by omega) (by omega)
      refine lp_go3 _ (j + 1) hS hsz hB h6 h7 he hae (by omega) (by omega) (fun G' g' => k G' (fun z => ?_))
      rw [g' z, show e - j = (e - (j + 1)) + 1 by omega, jT_w, List.foldl_cons, jg_Lus, jT_s8, nI_l (by have := jT_c_lt B sz j; omega)]
termination_by e - j
decreasing_by all_goals omega

set_option maxHeartbeats 800000 in
set_option maxRecDepth 100000 in
theorem lp_go4 {d n0 : Nat} {Q : Option jx_V → jx_H → Prop} {h : jx_H} {G : Nat → Int64} {B : Nat → Int32} {sz : Nat} {x1 : Int32} {a : Nat} (F : Nat → Int32) (i v : Nat) (hS : F 3 = nI sz) (hsz : sz ≤ 1700) (hB : jT_c (jh_I h 65 0) sz = jT_c B sz) (h6 : F 6 = nI a) (h7 : F 7 = nI i) (hai : a ≤ i) (hi : i ≤ sz) (h9 : i - a ≤ 4 → F 9 = nI v) (k : ∀ F' : Nat → Int32, (∀ f, f ≠ 7 → f ≠ 9 → F' f = F f) → F' 7 = nI (jT_run (fun i => jT_d (jT_c B sz i)) (sz - i) i) → (jT_run (fun i => jT_d (jT_c B sz i)) (sz - i) i - a ≤ 4 → F' 9 = nI (jT_n (jT_c B sz) (jT_run (fun i => jT_d (jT_c B sz i)) (sz - i) i - i) i v)) → jx_W (jm_MD_goOn, d + 3, 0, 0, false, 1, n0) Q 0 0 163 [some (jv_r 11 0), some (jv_i x1), none] [] (jM h F' G))  : jx_W (jm_MD_goOn, d + 3, 0, 0, false, 1, n0) Q 0 0 130 [some (jv_r 11 0), some (jv_i x1), none] [] (jM h F G) := by
  refine jr_aload rfl rfl ?_
  refine jr_aload rfl rfl ?_
  refine jr_getI rfl rfl ?_
  rw [show jh_I (jM h F G) 11 0 7 = nI i from h7]
  refine jr_cv1 (mc' := 0) (ms' := 0) rfl jm_MD_sign_n jm_MD_sign_f rfl rfl rfl rfl rfl rfl rfl (Nat.zero_le _) (Nat.zero_le _) ?_
  refine eM_sign (B := B) hS hsz hB (by omega) ?_
  refine jr_cs1 (mc' := 0) (ms' := 0) rfl jm_MD_isDigit_n jm_MD_isDigit_f rfl rfl rfl rfl rfl (Nat.zero_le _) (Nat.zero_le _) ?_
  refine eM_isDigit (jT_c_lt _ _ _) ?_
  refine jr_if_eq rfl (fun c135 => ?_) (fun c135 => ?_)
  · have e : jT_run (fun i => jT_d (jT_c B sz i)) (sz - i) i = i := by
      rcases Nat.lt_or_ge i sz with e | e
      · rw [jT_run_s e, if_neg (jf_0 c135)]
      · rw [jT_run_0 e]
    refine k F (fun _ _ _ => rfl) (by rw [e]; exact h7) (fun z => ?_)
    rw [e] at z ⊢
    rw [Nat.sub_self, jT_n]
    exact h9 z
  · have hi1 : i < sz := Decidable.byContradiction fun z => c135 (by rw [jT_c_0 (by omega)]; rfl)
    have hc := jT_d_iff.mp (jf_1 c135)
    have hb := (jT_run_b (p := fun i => jT_d (jT_c B sz i)) (sz - (i + 1)) (i + 1)).1
    refine jr_aload rfl rfl ?_
    refine jr_getI rfl rfl ?_
    refine jr_aload rfl rfl ?_
    refine jr_getI rfl rfl ?_
    refine jr_isub rfl ?_
    refine jr_ic rfl ?_
    rw [show jh_I (jM h F G) 11 0 7 - jh_I (jM h F G) 11 0 6 = nI (i - a) from jn_sub h7 h6 hai]
    refine jr_icmp_ge rfl (fun c142 => ?_) (fun c142 => ?_)
    · refine jr_aload rfl rfl ?_
      refine jr_dup_r rfl ?_
      refine jr_getI rfl rfl ?_
      refine jr_ic rfl ?_
      refine jr_iadd rfl ?_
      refine jr_putI rfl rfl ?_
      simp only [jM_I, jM_rI, jM_L, jM_rL]
      refine jr_goto rfl ?_
      refine lp_go4 _ (i + 1) v hS hsz hB h6 (by rw [show upd F 7 (F 7 + 1) 7 = F 7 + 1 from jg_us _ _ _, h7, jn_S]) (by omega) (by omega) (fun z => by have := jn_le (show nI 4 ≤ nI (i - a) from c142) (by decide) (by omega); omega) (fun F' f' e7 e9 => k F' (fun f h1 h2 => (f' f h1 h2).trans (jg_un h1)) ?_ (fun z => ?_))
      · rw [e7, jT_run_s hi1, if_pos (jf_1 c135)]
      · have := jn_le (show nI 4 ≤ nI (i - a) from c142) (by decide) (by omega)
        rw [jT_run_s hi1, if_pos (jf_1 c135)] at z
        omega
    · refine jr_aload rfl rfl ?_
      refine jr_ic rfl ?_
      refine jr_aload rfl rfl ?_
      refine jr_getI rfl rfl ?_
      refine jr_imul rfl ?_
      refine jr_aload rfl rfl ?_
      refine jr_aload rfl rfl ?_
      refine jr_getI rfl rfl ?_
      rw [show jh_I (jM h F G) 11 0 7 = nI i from h7]
      refine jr_cv1 (mc' := 0) (ms' := 0) rfl jm_MD_sign_n jm_MD_sign_f rfl rfl rfl rfl rfl rfl rfl (Nat.zero_le _) (Nat.zero_le _) ?_
      refine eM_sign (B := B) hS hsz hB (by omega) ?_
      refine jr_iadd rfl ?_
      refine jr_ic rfl ?_
      refine jr_isub rfl ?_
      rw [show 10 * jh_I (jM h F G) 11 0 9 + nI (jT_c B sz i) - 48 = nI (v * 10 + (jT_c B sz i - 48)) from by rw [show jh_I (jM h F G) 11 0 9 = nI v from h9 (by have := jn_nle (show ¬ nI 4 ≤ nI (i - a) from c142) (by decide) (by omega); omega), show (10 : Int32) * nI v = nI (v * 10) from by rw [Nat.mul_comm]; exact jn_mul (jn_c 10) rfl, jn_add rfl rfl, show nI (v * 10 + jT_c B sz i) - 48 = nI (v * 10 + jT_c B sz i - 48) from jn_sub rfl (jn_c 48) (by omega)]; exact congrArg nI (by omega)]
      refine jr_putI rfl rfl ?_
      simp only [jM_I, jM_rI, jM_L, jM_rL]
      refine jr_aload rfl rfl ?_
      refine jr_dup_r rfl ?_
      refine jr_getI rfl rfl ?_
      refine jr_ic rfl ?_
      refine jr_iadd rfl ?_
      refine jr_putI rfl rfl ?_
      simp only [jM_I, jM_rI, jM_L, jM_rL]
      refine jr_goto rfl ?_
      refine lp_go4 _ (i + 1) (v * 10 + (jT_c B sz i - 48)) hS hsz hB h6 (by rw [show upd (upd F 9 _) 7 (upd F 9 _ 7 + 1) 7 = upd F 9 _ 7 + 1 from jg_us _ _ _, jg_un (by decide), h7, jn_S]) (by omega) (by omega) (fun _ => by rw [jg_un (by decide), jg_us]) (fun F' f' e7 e9 => k F' (fun f h1 h2 => (f' f h1 h2).trans ((jg_un h1).trans (jg_un h2))) ?_ (fun z => ?_))
      · rw [e7, jT_run_s hi1, if_pos (jf_1 c135)]
      · rw [jT_run_s hi1, if_pos (jf_1 c135)] at z ⊢
        rw [e9 z, show jT_run (fun i => jT_d (jT_c B sz i)) (sz - (i + 1)) (i + 1) - i = (jT_run (fun i => jT_d (jT_c B sz i)) (sz - (i + 1)) (i + 1) - (i + 1)) + 1 by omega, jT_n]
termination_by sz - i
decreasing_by all_goals omega

def jT_mF (F : Nat → Int32) (G : Nat → Int64) (B : Nat → Int32) (sz t : Nat) : Prop := F 6 = nI (jT_p B sz t) ∧ F 7 = nI (jT_E B sz (t + 1)) ∧ F 8 = nI (jT_mt (jT_k B sz (jT_p B sz t))) ∧ (jT_k B sz (jT_p B sz t) = 2 → F 9 = nI (jT_v B sz (jT_p B sz t))) ∧ ((jT_k B sz (jT_p B sz t) = 3 ∨ 100 ≤ jT_k B sz (jT_p B sz t)) → G 10 = jT_key (jT_wd B sz (jT_p B sz t)))
theorem jT_E_s (B : Nat → Int32) (sz t : Nat) : jT_E B sz (t + 1) = jT_f B sz (jT_p B sz t) := rfl
theorem jT_k_sg {B : Nat → Int32} {sz a : Nat} (h : a < sz) (h1 : ¬ jT_l (jT_c B sz a) = true) (h2 : ¬ jT_d (jT_c B sz a) = true) : jT_k B sz a = if jT_sg (jT_c B sz a) = true then jT_c B sz a else 1 := by
  unfold jT_k
  rw [if_neg (by omega), if_neg h1, if_neg h2]
theorem jT_sg_r {c : Nat} (h : jT_sg c = true) : 37 ≤ c ∧ c ≤ 62 := by
  have z2 := List.contains_iff_mem.mp h
  simp only [List.mem_cons, List.not_mem_nil, or_false] at z2
  omega
set_option maxHeartbeats 800000 in
set_option maxRecDepth 100000 in
theorem eM_goOnF {d : Nat} {Q : Option jx_V → jx_H → Prop} {h : jx_H} {F : Nat → Int32} {G : Nat → Int64} {B : Nat → Int32} {sz : Nat} {t : Nat} (hS : F 3 = nI sz) (hsz : sz ≤ 1700) (hB : jT_c (jh_I h 65 0) sz = jT_c B sz) (h7 : F 7 = nI (jT_E B sz t)) (k : ∀ (F' : Nat → Int32) (G' : Nat → Int64), (∀ f, f < 6 ∨ 10 < f → F' f = F f) → jT_mF F' G' B sz t → Q none (jM h F' G'))  : jx_Ev jm_MD_goOn (d + 3) 0 0 false 1 [jv_r 11 0] (jM h F G) Q := by
  show jx_W (jm_MD_goOn, d + 3, 0, 0, false, 1, _) Q 0 0 0 [some (jv_r 11 0), none, none] [] _
  have hA := @jT_p_le B sz t
  refine jr_aload rfl rfl ?_
  refine jr_aload rfl rfl ?_
  refine jr_getI rfl rfl ?_
  refine jr_putI rfl rfl ?_
  simp only [jM_I, jM_rI, jM_L, jM_rL]
  refine lp_go1 _ (jT_E B sz t) ((jg_un (by decide)).trans hS) hsz hB ((jg_us _ _ _).trans h7) (jT_E_le t) (fun F1 f1 e1 => ?_)
  refine jr_aload rfl rfl ?_
  refine jr_aload rfl rfl ?_
  refine jr_getI rfl rfl ?_
  rw [show jh_I (jM h F1 G) 11 0 6 = nI (jT_p B sz t) from e1]
  refine jr_cv1 (mc' := 0) (ms' := 0) rfl jm_MD_sign_n jm_MD_sign_f rfl rfl rfl rfl rfl rfl rfl (Nat.zero_le _) (Nat.zero_le _) ?_
  refine eM_sign (B := B) (show F1 3 = nI sz from (f1 3 (by decide)).trans ((jg_un (by decide)).trans hS)) hsz hB (by omega) ?_
  refine jr_ist1 rfl rfl ?_
  refine jr_aload rfl rfl ?_
  refine jr_aload rfl rfl ?_
  refine jr_getI rfl rfl ?_
  refine jr_ic rfl ?_
  refine jr_iadd rfl ?_
  refine jr_putI rfl rfl ?_
  simp only [jM_I, jM_rI, jM_L, jM_rL]
  refine jr_aload rfl rfl ?_
  refine jr_getI rfl rfl ?_
  refine jr_aload rfl rfl ?_
  refine jr_getI rfl rfl ?_
  rw [show jh_I (jM h (upd F1 7 (F1 6 + 1)) G) 11 0 6 = nI (jT_p B sz t) from e1, show jh_I (jM h (upd F1 7 (F1 6 + 1)) G) 11 0 3 = nI sz from (f1 3 (by decide)).trans ((jg_un (by decide)).trans hS)]
  refine jr_icmp_lt rfl (fun c43 => ?_) (fun c43 => ?_)
  · refine jr_iload rfl rfl ?_
    have hlt : (jT_p B sz t) < sz := jn_lt (show nI (jT_p B sz t) < nI sz from c43) (by omega) (by omega)
    refine jr_cs1 (mc' := 0) (ms' := 0) rfl jm_MD_isLetter_n jm_MD_isLetter_f rfl rfl rfl rfl rfl (Nat.zero_le _) (Nat.zero_le _) ?_
    refine eM_isLetter (jT_c_lt _ _ _) ?_
    refine jr_if_eq rfl (fun c58 => ?_) (fun c58 => ?_)
    · refine jr_iload rfl rfl ?_
      refine jr_cs1 (mc' := 0) (ms' := 0) rfl jm_MD_isDigit_n jm_MD_isDigit_f rfl rfl rfl rfl rfl (Nat.zero_le _) (Nat.zero_le _) ?_
      refine eM_isDigit (jT_c_lt _ _ _) ?_
      refine jr_if_eq rfl (fun c122 => ?_) (fun c122 => ?_)
      · refine jr_aload rfl rfl ?_
        refine jr_iload rfl rfl ?_
        refine jr_cs1 (mc' := 0) (ms' := 0) rfl jm_MD_isSign_n jm_MD_isSign_f rfl rfl rfl rfl rfl (Nat.zero_le _) (Nat.zero_le _) ?_
        refine eM_isSign (jT_c_lt _ _ _) ?_
        refine jr_if_eq rfl (fun c185 => ?_) (fun c185 => ?_)
        · refine jr_ic rfl ?_
          refine jr_putI rfl rfl ?_
          simp only [jM_I, jM_rI, jM_L, jM_rL]
          refine jr_vret rfl rfl (Nat.zero_le _) (Nat.zero_le _) ?_
          have hks := jT_k_sg hlt (jf_0 c58) (jf_0 c122)
          rw [if_neg (jf_0 c185)] at hks
          have hf1 : jT_f B sz (jT_p B sz t) = (jT_p B sz t) + 1 := by
            unfold jT_f
            rw [if_neg (by omega), if_neg (jf_0 c58), if_neg (jf_0 c122)]
          refine k _ G (fun f hf => ?_) ⟨?_, ?_, ?_, fun z => ?_, fun z => ?_⟩
          · rw [jg_un (by omega), jg_un (by omega), f1 f (by omega)]
            exact jg_un (by omega)
          · rw [jg_un (by decide), jg_un (by decide)]; exact e1
          · rw [jg_un (by decide), jg_us, jT_E_s, hf1, e1, jn_S]
          · rw [jg_us, hks]
            rfl
          · exfalso; rw [hks] at z; exact absurd z (by decide)
          · exfalso; rw [hks] at z; exact absurd z (by decide)
        · refine jr_ic rfl ?_
          refine jr_goto rfl ?_
          refine jr_putI rfl rfl ?_
          simp only [jM_I, jM_rI, jM_L, jM_rL]
          refine jr_vret rfl rfl (Nat.zero_le _) (Nat.zero_le _) ?_
          have hks := jT_k_sg hlt (jf_0 c58) (jf_0 c122)
          rw [if_pos (jf_1 c185)] at hks
          have hr := jT_sg_r (jf_1 c185)
          have hf1 : jT_f B sz (jT_p B sz t) = (jT_p B sz t) + 1 := by
            unfold jT_f
            rw [if_neg (by omega), if_neg (jf_0 c58), if_neg (jf_0 c122)]
          refine k _ G (fun f hf => ?_) ⟨?_, ?_, ?_, fun z => ?_, fun z => ?_⟩
          · rw [jg_un (by omega), jg_un (by omega), f1 f (by omega)]
            exact jg_un (by omega)
          · rw [jg_un (by decide), jg_un (by decide)]; exact e1
          · rw [jg_un (by decide), jg_us, jT_E_s, hf1, e1, jn_S]
          · rw [jg_us, hks]
            unfold jT_mt
            rw [if_neg (by omega), if_neg (by omega), if_neg (by omega), if_neg (by omega), if_neg (by omega)]; rfl
          · exfalso; rw [hks] at z; omega
          · exfalso; rw [hks] at z; omega
      · refine jr_aload rfl rfl ?_
        refine jr_ic rfl ?_
        refine jr_putI rfl rfl ?_
        simp only [jM_I, jM_rI, jM_L, jM_rL]
        refine jr_aload rfl rfl ?_
        refine jr_aload rfl rfl ?_
        refine jr_getI rfl rfl ?_
        refine jr_putI rfl rfl ?_
        simp only [jM_I, jM_rI, jM_L, jM_rL]
        refine lp_go4 (a := (jT_p B sz t)) _ (jT_p B sz t) 0 (show upd (upd (upd F1 7 (F1 6 + 1)) 9 0) 7 _ 3 = nI sz from (jg_un (by decide)).trans ((jg_un (by decide)).trans ((jg_un (by decide)).trans ((f1 3 (by decide)).trans ((jg_un (by decide)).trans hS))))) hsz hB ((jg_un (by decide)).trans ((jg_un (by decide)).trans ((jg_un (by decide)).trans e1))) (by rw [jg_us, jg_un (by decide), jg_un (by decide)]; exact e1) (Nat.le_refl _) (by omega) (fun _ => by rw [jg_un (by decide), jg_us]; rfl) (fun F3 f3 e3 n3 => ?_)
        have n3 : jT_run (fun i => jT_d (jT_c B sz i)) (sz - (jT_p B sz t)) (jT_p B sz t) - (jT_p B sz t) ≤ 4 → F3 9 = nI (jT_v B sz (jT_p B sz t)) := fun z => (n3 z).trans (by unfold jT_v jT_f; rw [if_neg (by omega), if_neg (jf_0 c58), if_pos (jf_1 c122)])
        have hfr : jT_f B sz (jT_p B sz t) = jT_run (fun i => jT_d (jT_c B sz i)) (sz - (jT_p B sz t)) (jT_p B sz t) := by
          unfold jT_f
          rw [if_neg (by omega), if_neg (jf_0 c58), if_pos (jf_1 c122)]
        have hfb := jT_f_b (B := B) hlt
        have e3' : F3 7 = nI (jT_f B sz (jT_p B sz t)) := by rw [e3, hfr]
        refine jr_aload rfl rfl ?_
        refine jr_aload rfl rfl ?_
        refine jr_getI rfl rfl ?_
        refine jr_aload rfl rfl ?_
        refine jr_getI rfl rfl ?_
        refine jr_isub rfl ?_
        refine jr_ic rfl ?_
        rw [show jh_I (jM h F3 G) 11 0 7 - jh_I (jM h F3 G) 11 0 6 = nI (jT_f B sz (jT_p B sz t) - (jT_p B sz t)) from jn_sub e3' (show F3 6 = nI (jT_p B sz t) from by rw [f3 6 (by decide) (by decide), jg_un (by decide), jg_un (by decide), jg_un (by decide)]; exact e1) (by omega)]
        refine jr_icmp_gt rfl (fun c170 => ?_) (fun c170 => ?_)
        · refine jr_ic rfl ?_
          refine jr_goto rfl ?_
          refine jr_putI rfl rfl ?_
          simp only [jM_I, jM_rI, jM_L, jM_rL]
          refine jr_goto rfl ?_
          refine jr_vret rfl rfl (Nat.zero_le _) (Nat.zero_le _) ?_
          have h4 : 4 < jT_f B sz (jT_p B sz t) - (jT_p B sz t) := jn_lt (show nI 4 < nI (jT_f B sz (jT_p B sz t) - (jT_p B sz t)) from c170) (by decide) (by omega)
          have hkn : jT_k B sz (jT_p B sz t) = if 4 < jT_f B sz (jT_p B sz t) - (jT_p B sz t) ∨ jT_l (jT_c B sz (jT_f B sz (jT_p B sz t))) = true then 1 else 2 := by
            unfold jT_k
            rw [if_neg (by omega), if_neg (jf_0 c58), if_pos (jf_1 c122)]
          rw [if_pos (Or.inl h4)] at hkn
          refine k _ G (fun f hf => ?_) ⟨?_, ?_, ?_, fun z => ?_, fun z => ?_⟩
          · rw [jg_un (by omega), f3 f (by omega) (by omega), jg_un (by omega), jg_un (by omega), jg_un (by omega), f1 f (by omega)]
            exact jg_un (by omega)
          · rw [jg_un (by decide), f3 6 (by decide) (by decide), jg_un (by decide), jg_un (by decide), jg_un (by decide)]; exact e1
          · rw [jg_un (by decide), e3, jT_E_s, hfr]
          · rw [jg_us, hkn]; rfl
          · exact absurd (hkn.symm.trans z) (by decide)
          · exfalso; rw [hkn] at z; exact absurd z (by decide)
        · refine jr_aload rfl rfl ?_
          refine jr_aload rfl rfl ?_
          refine jr_getI rfl rfl ?_
          rw [show jh_I (jM h F3 G) 11 0 7 = nI (jT_f B sz (jT_p B sz t)) from e3']
          refine jr_cv1 (mc' := 0) (ms' := 0) rfl jm_MD_sign_n jm_MD_sign_f rfl rfl rfl rfl rfl rfl rfl (Nat.zero_le _) (Nat.zero_le _) ?_
          refine eM_sign (B := B) (show F3 3 = nI sz from by rw [f3 3 (by decide) (by decide), jg_un (by decide), jg_un (by decide), jg_un (by decide), f1 3 (by decide)]; exact (jg_un (by decide)).trans hS) hsz hB (by omega) ?_
          refine jr_cs1 (mc' := 0) (ms' := 0) rfl jm_MD_isLetter_n jm_MD_isLetter_f rfl rfl rfl rfl rfl (Nat.zero_le _) (Nat.zero_le _) ?_
          refine eM_isLetter (jT_c_lt _ _ _) ?_
          refine jr_if_eq rfl (fun c176 => ?_) (fun c176 => ?_)
          · refine jr_ic rfl ?_
            refine jr_putI rfl rfl ?_
            simp only [jM_I, jM_rI, jM_L, jM_rL]
            refine jr_goto rfl ?_
            refine jr_vret rfl rfl (Nat.zero_le _) (Nat.zero_le _) ?_
            have h4 := jn_nlt (show ¬ nI 4 < nI (jT_f B sz (jT_p B sz t) - (jT_p B sz t)) from c170) (by decide) (by omega)
            have hkn : jT_k B sz (jT_p B sz t) = if 4 < jT_f B sz (jT_p B sz t) - (jT_p B sz t) ∨ jT_l (jT_c B sz (jT_f B sz (jT_p B sz t))) = true then 1 else 2 := by
              unfold jT_k
              rw [if_neg (by omega), if_neg (jf_0 c58), if_pos (jf_1 c122)]
            rw [if_neg (fun z => z.elim (fun y => by omega) (jf_0 c176))] at hkn
            refine k _ G (fun f hf => ?_) ⟨?_, ?_, ?_, fun z => ?_, fun z => ?_⟩
            · rw [jg_un (by omega), f3 f (by omega) (by omega), jg_un (by omega), jg_un (by omega), jg_un (by omega), f1 f (by omega)]
              exact jg_un (by omega)
            · rw [jg_un (by decide), f3 6 (by decide) (by decide), jg_un (by decide), jg_un (by decide), jg_un (by decide)]; exact e1
            · rw [jg_un (by decide), e3, jT_E_s, hfr]
            · rw [jg_us, hkn]; rfl
            · rw [jg_un (by decide)]; exact n3 (by rw [← hfr]; exact h4)
            · exfalso; rw [hkn] at z; exact absurd z (by decide)
          · refine jr_ic rfl ?_
            refine jr_goto rfl ?_
            refine jr_putI rfl rfl ?_
            simp only [jM_I, jM_rI, jM_L, jM_rL]
            refine jr_goto rfl ?_
            refine jr_vret rfl rfl (Nat.zero_le _) (Nat.zero_le _) ?_
            have hkn : jT_k B sz (jT_p B sz t) = if 4 < jT_f B sz (jT_p B sz t) - (jT_p B sz t) ∨ jT_l (jT_c B sz (jT_f B sz (jT_p B sz t))) = true then 1 else 2 := by
              unfold jT_k
              rw [if_neg (by omega), if_neg (jf_0 c58), if_pos (jf_1 c122)]
            rw [if_pos (Or.inr (jf_1 c176))] at hkn
            refine k _ G (fun f hf => ?_) ⟨?_, ?_, ?_, fun z => ?_, fun z => ?_⟩
            · rw [jg_un (by omega), f3 f (by omega) (by omega), jg_un (by omega), jg_un (by omega), jg_un (by omega), f1 f (by omega)]
              exact jg_un (by omega)
            · rw [jg_un (by decide), f3 6 (by decide) (by decide), jg_un (by decide), jg_un (by decide), jg_un (by decide)]; exact e1
            · rw [jg_un (by decide), e3, jT_E_s, hfr]
            · rw [jg_us, hkn]; rfl
            · exact absurd (hkn.symm.trans z) (by decide)
            · exfalso; rw [hkn] at z; exact absurd z (by decide)
    · refine lp_go2 _ ((jT_p B sz t) + 1) (show upd F1 7 (F1 6 + 1) 3 = nI sz from (jg_un (by decide)).trans ((f1 3 (by decide)).trans ((jg_un (by decide)).trans hS))) hsz hB (by rw [jg_us, e1, jn_S]) (by omega) (fun F3 f3 e3 => ?_)
      have hfr : jT_f B sz (jT_p B sz t) = jT_run (fun i => jT_l (jT_c B sz i)) (sz - ((jT_p B sz t) + 1)) ((jT_p B sz t) + 1) := by
        unfold jT_f
        rw [if_neg (by omega), if_pos (jf_1 c58), jT_run_s hlt, if_pos (jf_1 c58)]
      have hfb := jT_f_b (B := B) hlt
      have hwl := jT_wd_l (B := B) hlt (jf_1 c58)
      have e3' : F3 7 = nI (jT_f B sz (jT_p B sz t)) := by rw [e3, hfr]
      have e6 : F3 6 = nI (jT_p B sz t) := by rw [f3 6 (by decide), jg_un (by decide)]; exact e1
      have hkw : jT_k B sz (jT_p B sz t) = if 8 < jT_f B sz (jT_p B sz t) - (jT_p B sz t) then 1 else if jT_ix (jT_wd B sz (jT_p B sz t)) < 29 then 100 + jT_ix (jT_wd B sz (jT_p B sz t)) else 3 := by
        unfold jT_k
        rw [if_neg (by omega), if_pos (jf_1 c58)]
      refine jr_aload rfl rfl ?_
      refine jr_lc rfl ?_
      refine jr_putL rfl rfl ?_
      simp only [jM_I, jM_rI, jM_L, jM_rL]
      refine jr_aload rfl rfl ?_
      refine jr_getI rfl rfl ?_
      rw [show jh_I (jM h F3 (vp_updL G 10 0)) 11 0 6 = nI (jT_p B sz t) from e6]
      refine jr_ist2 rfl rfl ?_
      refine lp_go3 (a := (jT_p B sz t)) (e := jT_f B sz (jT_p B sz t)) _ (jT_p B sz t) (show F3 3 = nI sz from by rw [f3 3 (by decide), jg_un (by decide), f1 3 (by decide)]; exact (jg_un (by decide)).trans hS) hsz hB e6 e3' (by omega) (by omega) (by omega) (by omega) (fun G4 g4 x2 => ?_)
      have gk : jT_f B sz (jT_p B sz t) - (jT_p B sz t) ≤ 8 → G4 10 = jT_key (jT_wd B sz (jT_p B sz t)) := fun z => (g4 z).trans (by rw [jg_Lus]; rfl)
      refine jr_aload rfl rfl ?_
      refine jr_aload rfl rfl ?_
      refine jr_getI rfl rfl ?_
      refine jr_aload rfl rfl ?_
      refine jr_getI rfl rfl ?_
      refine jr_isub rfl ?_
      refine jr_ic rfl ?_
      rw [show jh_I (jM h F3 G4) 11 0 7 - jh_I (jM h F3 G4) 11 0 6 = nI (jT_f B sz (jT_p B sz t) - (jT_p B sz t)) from jn_sub e3' e6 (by omega)]
      refine jr_icmp_le rfl (fun c108 => ?_) (fun c108 => ?_)
      · refine jr_aload rfl rfl ?_
        refine jr_getL rfl rfl ?_
        have h8 := jn_le (show nI (jT_f B sz (jT_p B sz t) - (jT_p B sz t)) ≤ nI 8 from c108) (by omega) (by decide)
        rw [show jh_L (jM h F3 G4) 11 0 10 = jT_key (jT_wd B sz (jT_p B sz t)) from gk h8]
        refine jr_cs1 (mc' := 0) (ms' := 0) rfl jm_MD_isKept_n jm_MD_isKept_f rfl rfl rfl rfl rfl (Nat.zero_le _) (Nat.zero_le _) ?_
        refine eM_isKept hwl.1 (by omega) ?_
        refine jr_if_eq rfl (fun c114 => ?_) (fun c114 => ?_)
        · refine jr_ic rfl ?_
          refine jr_putI rfl rfl ?_
          simp only [jM_I, jM_rI, jM_L, jM_rL]
          refine jr_goto rfl ?_
          refine jr_vret rfl rfl (Nat.zero_le _) (Nat.zero_le _) ?_
          have h8 := jn_le (show nI (jT_f B sz (jT_p B sz t) - (jT_p B sz t)) ≤ nI 8 from c108) (by omega) (by decide)
          have h29 : ¬ jT_ix (jT_wd B sz (jT_p B sz t)) < 29 := fun z9 => by rw [if_pos z9] at c114; exact absurd c114 (by decide)
          rw [if_neg (by omega), if_neg h29] at hkw
          refine k _ _ (fun f hf => ?_) ⟨?_, ?_, ?_, fun z => absurd z (jT_k_n2 hlt (jf_1 c58)), fun z => ?_⟩
          · rw [jg_un (by omega), f3 f (by omega), jg_un (by omega), f1 f (by omega)]
            exact jg_un (by omega)
          · rw [jg_un (by decide), f3 6 (by decide), jg_un (by decide)]; exact e1
          · rw [jg_un (by decide), e3', jT_E_s]
          · rw [jg_us, hkw]
            rfl
          · exact gk h8
        · refine jr_ic rfl ?_
          refine jr_goto rfl ?_
          refine jr_putI rfl rfl ?_
          simp only [jM_I, jM_rI, jM_L, jM_rL]
          refine jr_goto rfl ?_
          refine jr_vret rfl rfl (Nat.zero_le _) (Nat.zero_le _) ?_
          have h8 := jn_le (show nI (jT_f B sz (jT_p B sz t) - (jT_p B sz t)) ≤ nI 8 from c108) (by omega) (by decide)
          have h29 : jT_ix (jT_wd B sz (jT_p B sz t)) < 29 := Decidable.byContradiction fun z9 => c114 (if_neg z9)
          rw [if_neg (by omega), if_pos h29] at hkw
          refine k _ _ (fun f hf => ?_) ⟨?_, ?_, ?_, fun z => absurd z (jT_k_n2 hlt (jf_1 c58)), fun z => ?_⟩
          · rw [jg_un (by omega), f3 f (by omega), jg_un (by omega), f1 f (by omega)]
            exact jg_un (by omega)
          · rw [jg_un (by decide), f3 6 (by decide), jg_un (by decide)]; exact e1
          · rw [jg_un (by decide), e3', jT_E_s]
          · rw [jg_us, hkw]
            unfold jT_mt
            rw [if_neg (by omega), if_neg (by omega), if_neg (by omega), if_neg (by omega), if_pos (by omega)]; rfl
          · exact gk h8
      · refine jr_ic rfl ?_
        refine jr_goto rfl ?_
        refine jr_putI rfl rfl ?_
        simp only [jM_I, jM_rI, jM_L, jM_rL]
        refine jr_goto rfl ?_
        refine jr_vret rfl rfl (Nat.zero_le _) (Nat.zero_le _) ?_
        have h8 : 8 < jT_f B sz (jT_p B sz t) - (jT_p B sz t) := jn_nle (show ¬ nI (jT_f B sz (jT_p B sz t) - (jT_p B sz t)) ≤ nI 8 from c108) (by omega) (by decide)
        rw [if_pos h8] at hkw
        refine k _ _ (fun f hf => ?_) ⟨?_, ?_, ?_, fun z => absurd z (jT_k_n2 hlt (jf_1 c58)), fun z => ?_⟩
        · rw [jg_un (by omega), f3 f (by omega), jg_un (by omega), f1 f (by omega)]
          exact jg_un (by omega)
        · rw [jg_un (by decide), f3 6 (by decide), jg_un (by decide)]; exact e1
        · rw [jg_un (by decide), e3', jT_E_s]
        · rw [jg_us, hkw]
          rfl
        · exfalso; rw [hkw] at z; exact absurd z (by decide)
  · refine jr_aload rfl rfl ?_
    refine jr_ic rfl ?_
    refine jr_putI rfl rfl ?_
    simp only [jM_I, jM_rI, jM_L, jM_rL]
    refine jr_aload rfl rfl ?_
    refine jr_aload rfl rfl ?_
    refine jr_getI rfl rfl ?_
    refine jr_putI rfl rfl ?_
    simp only [jM_I, jM_rI, jM_L, jM_rL]
    refine jr_aload rfl rfl ?_
    refine jr_aload rfl rfl ?_
    refine jr_getI rfl rfl ?_
    refine jr_putI rfl rfl ?_
    simp only [jM_I, jM_rI, jM_L, jM_rL]
    refine jr_goto rfl ?_
    refine jr_vret rfl rfl (Nat.zero_le _) (Nat.zero_le _) ?_
    have hge : sz ≤ (jT_p B sz t) := jn_nlt (show ¬ nI (jT_p B sz t) < nI sz from c43) (by omega) (by omega)
    have hsa : (jT_p B sz t) = sz := by omega
    have hk0 : jT_k B sz (jT_p B sz t) = 0 := if_pos hge
    have hf0 : jT_f B sz (jT_p B sz t) = (jT_p B sz t) := if_pos hge
    have h3' : upd F1 7 (F1 6 + 1) 3 = nI sz := (jg_un (by decide)).trans ((f1 3 (by decide)).trans ((jg_un (by decide)).trans hS))
    refine k _ G (fun f hf => ?_) ⟨?_, ?_, ?_, fun z => ?_, fun z => ?_⟩
    · rw [jg_un (by omega), jg_un (by omega), jg_un (by omega), jg_un (by omega), f1 f (by omega)]
      exact jg_un (by omega)
    · rw [jg_un (by decide), jg_us, jg_un (by decide), h3', hsa]
    · rw [jg_us, jg_un (by decide), jg_un (by decide), h3', jT_E_s, hf0, hsa]
    · rw [jg_un (by decide), jg_un (by decide), jg_us, hk0]; rfl
    · exact absurd (hk0.symm.trans z) (by decide)
    · exfalso; rw [hk0] at z; exact absurd z (by decide)

theorem eM_goOn {d : Nat} {h : jx_H} {Q : Option jx_V → jx_H → Prop} {B : Nat → Int32} {sz t : Nat} (hS : jh_I h 11 0 3 = nI sz) (hsz : sz ≤ 1700) (hB : jT_c (jh_I h 65 0) sz = jT_c B sz) (h7 : jh_I h 11 0 7 = nI (jT_E B sz t)) (k : ∀ h', jT_MG h h' → jT_mc h' B sz t → Q none h') : jx_Ev jm_MD_goOn (d + 3) 0 0 false 1 [jv_r 11 0] h Q := by
  have := eM_goOnF (d := d) (h := h) (Q := Q) (F := jh_I h 11 0) (G := jh_L h 11 0) hS hsz hB h7 (fun F' G' f' m' => k _ ⟨fun a b z => if_neg (fun y => z y.1), fun a b z => if_neg (fun y => z y.1), rfl, f'⟩ m')
  rw [jM_self] at this
  exact this
