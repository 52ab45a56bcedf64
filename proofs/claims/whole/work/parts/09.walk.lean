theorem jn_c (n : Nat) : (OfNat.ofNat n : Int32) = nI n := rfl
theorem jn_add {x y : Int32} {a b : Nat} (h1 : x = nI a) (h2 : y = nI b) : x + y = nI (a + b) := by rw [h1, h2, nI_add]
theorem jn_mul {x y : Int32} {a b : Nat} (h1 : x = nI a) (h2 : y = nI b) : x * y = nI (a * b) := by rw [h1, h2, pk_mul]
theorem jn_sub {x y : Int32} {a b : Nat} (h1 : x = nI a) (h2 : y = nI b) (h : b ≤ a) : x - y = nI (a - b) := by rw [h1, h2, pk_sub h]
theorem jq_pos {P : Prop} [Decidable P] {a b : Int32} {Q : Option jx_V → jx_H → Prop} {h : jx_H} (hQ : Q (some (jv_i (if P then a else b))) h) (c : P) : Q (some (jv_i a)) h := by rw [if_pos c] at hQ; exact hQ
theorem jq_neg {P : Prop} [Decidable P] {a b : Int32} {Q : Option jx_V → jx_H → Prop} {h : jx_H} (hQ : Q (some (jv_i (if P then a else b))) h) (c : ¬ P) : Q (some (jv_i b)) h := by rw [if_neg c] at hQ; exact hQ
set_option maxHeartbeats 4000000 in
set_option maxRecDepth 100000 in
theorem ev_MD_isLetter {d : Nat} {al : Bool} {h : jx_H} {Q : Option jx_V → jx_H → Prop} {c : Int32} {sd : Nat} (hQ : Q (some (jv_i (if 97 ≤ c ∧ c ≤ 122 then 1 else 0))) h) : jx_Ev jm_MD_isLetter (d) 0 0 al sd [jv_i c] h Q := by
  show jx_W (jm_MD_isLetter, d, 0, 0, al, sd, jh_n h) Q 0 0 0 [some (jv_i c)] [] h
  refine jr_iload rfl rfl ?_
  refine jr_ic rfl ?_
  refine jr_icmp_lt rfl (fun c2 => ?_) (fun c2 => ?_)
  · refine jr_ic rfl ?_
    refine jr_zret rfl rfl rfl (Nat.zero_le _) (Nat.zero_le _) ?_
    first | exact jq_pos hQ (by clear hQ; simp only [Int32.lt_iff_toInt_lt, Int32.le_iff_toInt_le, Int32.reduceToInt] at *; omega) | exact jq_neg hQ (by clear hQ; simp only [Int32.lt_iff_toInt_lt, Int32.le_iff_toInt_le, Int32.reduceToInt] at *; omega)
  · refine jr_iload rfl rfl ?_
    refine jr_ic rfl ?_
    refine jr_icmp_gt rfl (fun c5 => ?_) (fun c5 => ?_)
    · refine jr_ic rfl ?_
      refine jr_zret rfl rfl rfl (Nat.zero_le _) (Nat.zero_le _) ?_
      first | exact jq_pos hQ (by clear hQ; simp only [Int32.lt_iff_toInt_lt, Int32.le_iff_toInt_le, Int32.reduceToInt] at *; omega) | exact jq_neg hQ (by clear hQ; simp only [Int32.lt_iff_toInt_lt, Int32.le_iff_toInt_le, Int32.reduceToInt] at *; omega)
    · refine jr_ic rfl ?_
      refine jr_goto rfl ?_
      refine jr_zret rfl rfl rfl (Nat.zero_le _) (Nat.zero_le _) ?_
      first | exact jq_pos hQ (by clear hQ; simp only [Int32.lt_iff_toInt_lt, Int32.le_iff_toInt_le, Int32.reduceToInt] at *; omega) | exact jq_neg hQ (by clear hQ; simp only [Int32.lt_iff_toInt_lt, Int32.le_iff_toInt_le, Int32.reduceToInt] at *; omega)

set_option maxHeartbeats 4000000 in
set_option maxRecDepth 100000 in
theorem ev_MD_isDigit {d : Nat} {al : Bool} {h : jx_H} {Q : Option jx_V → jx_H → Prop} {c : Int32} {sd : Nat} (hQ : Q (some (jv_i (if 48 ≤ c ∧ c ≤ 57 then 1 else 0))) h) : jx_Ev jm_MD_isDigit (d) 0 0 al sd [jv_i c] h Q := by
  show jx_W (jm_MD_isDigit, d, 0, 0, al, sd, jh_n h) Q 0 0 0 [some (jv_i c)] [] h
  refine jr_iload rfl rfl ?_
  refine jr_ic rfl ?_
  refine jr_icmp_lt rfl (fun c2 => ?_) (fun c2 => ?_)
  · refine jr_ic rfl ?_
    refine jr_zret rfl rfl rfl (Nat.zero_le _) (Nat.zero_le _) ?_
    first | exact jq_pos hQ (by clear hQ; simp only [Int32.lt_iff_toInt_lt, Int32.le_iff_toInt_le, Int32.reduceToInt] at *; omega) | exact jq_neg hQ (by clear hQ; simp only [Int32.lt_iff_toInt_lt, Int32.le_iff_toInt_le, Int32.reduceToInt] at *; omega)
  · refine jr_iload rfl rfl ?_
    refine jr_ic rfl ?_
    refine jr_icmp_gt rfl (fun c5 => ?_) (fun c5 => ?_)
    · refine jr_ic rfl ?_
      refine jr_zret rfl rfl rfl (Nat.zero_le _) (Nat.zero_le _) ?_
      first | exact jq_pos hQ (by clear hQ; simp only [Int32.lt_iff_toInt_lt, Int32.le_iff_toInt_le, Int32.reduceToInt] at *; omega) | exact jq_neg hQ (by clear hQ; simp only [Int32.lt_iff_toInt_lt, Int32.le_iff_toInt_le, Int32.reduceToInt] at *; omega)
    · refine jr_ic rfl ?_
      refine jr_goto rfl ?_
      refine jr_zret rfl rfl rfl (Nat.zero_le _) (Nat.zero_le _) ?_
      first | exact jq_pos hQ (by clear hQ; simp only [Int32.lt_iff_toInt_lt, Int32.le_iff_toInt_le, Int32.reduceToInt] at *; omega) | exact jq_neg hQ (by clear hQ; simp only [Int32.lt_iff_toInt_lt, Int32.le_iff_toInt_le, Int32.reduceToInt] at *; omega)

set_option maxHeartbeats 4000000 in
set_option maxRecDepth 100000 in
theorem ev_MD_isIn {d : Nat} {al : Bool} {h : jx_H} {Q : Option jx_V → jx_H → Prop} {v a b : Int32} {sd : Nat} (hQ : Q (some (jv_i (if a ≤ v ∧ v ≤ b then 1 else 0))) h) : jx_Ev jm_MD_isIn (d) 0 0 al sd [jv_i v, jv_i a, jv_i b] h Q := by
  show jx_W (jm_MD_isIn, d, 0, 0, al, sd, jh_n h) Q 0 0 0 [some (jv_i v), some (jv_i a), some (jv_i b)] [] h
  refine jr_iload rfl rfl ?_
  refine jr_iload rfl rfl ?_
  refine jr_icmp_lt rfl (fun c2 => ?_) (fun c2 => ?_)
  · refine jr_ic rfl ?_
    refine jr_zret rfl rfl rfl (Nat.zero_le _) (Nat.zero_le _) ?_
    first | exact jq_pos hQ (by clear hQ; simp only [Int32.lt_iff_toInt_lt, Int32.le_iff_toInt_le, Int32.reduceToInt] at *; omega) | exact jq_neg hQ (by clear hQ; simp only [Int32.lt_iff_toInt_lt, Int32.le_iff_toInt_le, Int32.reduceToInt] at *; omega)
  · refine jr_iload rfl rfl ?_
    refine jr_iload rfl rfl ?_
    refine jr_icmp_gt rfl (fun c5 => ?_) (fun c5 => ?_)
    · refine jr_ic rfl ?_
      refine jr_zret rfl rfl rfl (Nat.zero_le _) (Nat.zero_le _) ?_
      first | exact jq_pos hQ (by clear hQ; simp only [Int32.lt_iff_toInt_lt, Int32.le_iff_toInt_le, Int32.reduceToInt] at *; omega) | exact jq_neg hQ (by clear hQ; simp only [Int32.lt_iff_toInt_lt, Int32.le_iff_toInt_le, Int32.reduceToInt] at *; omega)
    · refine jr_ic rfl ?_
      refine jr_goto rfl ?_
      refine jr_zret rfl rfl rfl (Nat.zero_le _) (Nat.zero_le _) ?_
      first | exact jq_pos hQ (by clear hQ; simp only [Int32.lt_iff_toInt_lt, Int32.le_iff_toInt_le, Int32.reduceToInt] at *; omega) | exact jq_neg hQ (by clear hQ; simp only [Int32.lt_iff_toInt_lt, Int32.le_iff_toInt_le, Int32.reduceToInt] at *; omega)

set_option maxHeartbeats 4000000 in
set_option maxRecDepth 100000 in
theorem ev_MD_hasMonths {d : Nat} {h : jx_H} {Q : Option jx_V → jx_H → Prop} {bk : Nat} (hb : jh_I h 11 0 43 = nI bk) (hbk : bk < 2) (hQ : Q (some (jv_i (if 0 < jh_I h 66 0 bk then 1 else 0))) h) : jx_Ev jm_MD_hasMonths (d) 0 0 false 1 [jv_r 11 0] h Q := by
  show jx_W (jm_MD_hasMonths, d, 0, 0, false, 1, jh_n h) Q 0 0 0 [some (jv_r 11 0)] [] h
  refine jr_aload rfl rfl ?_
  refine jr_getR rfl rfl rfl rfl (Or.inl rfl) ?_
  refine jr_aload rfl rfl ?_
  refine jr_getI rfl rfl ?_
  refine jr_iald rfl rfl hb (by omega) ?_
  refine jr_if_le rfl (fun c5 => ?_) (fun c5 => ?_)
  · refine jr_ic rfl ?_
    refine jr_zret rfl rfl rfl (Nat.zero_le _) (Nat.zero_le _) ?_
    first | exact jq_pos hQ (by clear hQ; simp only [Int32.lt_iff_toInt_lt, Int32.le_iff_toInt_le, Int32.reduceToInt] at *; omega) | exact jq_neg hQ (by clear hQ; simp only [Int32.lt_iff_toInt_lt, Int32.le_iff_toInt_le, Int32.reduceToInt] at *; omega)
  · refine jr_ic rfl ?_
    refine jr_goto rfl ?_
    refine jr_zret rfl rfl rfl (Nat.zero_le _) (Nat.zero_le _) ?_
    first | exact jq_pos hQ (by clear hQ; simp only [Int32.lt_iff_toInt_lt, Int32.le_iff_toInt_le, Int32.reduceToInt] at *; omega) | exact jq_neg hQ (by clear hQ; simp only [Int32.lt_iff_toInt_lt, Int32.le_iff_toInt_le, Int32.reduceToInt] at *; omega)

set_option maxHeartbeats 4000000 in
set_option maxRecDepth 100000 in
theorem ev_Str_coder {d : Nat} {al : Bool} {h : jx_H} {Q : Option jx_V → jx_H → Prop} {i sd : Nat} (hQ : Q (some (jv_i 0)) h) : jx_Ev jm_Str_coder (d) 0 0 al sd [jv_r 12 i] h Q := by
  show jx_W (jm_Str_coder, d, 0, 0, al, sd, jh_n h) Q 0 0 0 [some (jv_r 12 i)] [] h
  refine jr_stC rfl ?_
  refine jr_if_eq rfl (fun z => absurd z (by decide)) (fun _ => ?_)
  refine jr_aload rfl rfl ?_
  refine jr_strC rfl ?_
  refine jr_goto rfl ?_
  refine jr_zret rfl rfl rfl (Nat.zero_le _) (Nat.zero_le _) ?_
  exact hQ

set_option maxHeartbeats 4000000 in
set_option maxRecDepth 100000 in
theorem ev_Str_isLatin1 {d : Nat} {al : Bool} {h : jx_H} {Q : Option jx_V → jx_H → Prop} {i sd : Nat} (hQ : Q (some (jv_i 1)) h) : jx_Ev jm_Str_isLatin1 (d) 0 0 al sd [jv_r 12 i] h Q := by
  show jx_W (jm_Str_isLatin1, d, 0, 0, al, sd, jh_n h) Q 0 0 0 [some (jv_r 12 i)] [] h
  refine jr_stC rfl ?_
  refine jr_if_eq rfl (fun z => absurd z (by decide)) (fun _ => ?_)
  refine jr_aload rfl rfl ?_
  refine jr_strC rfl ?_
  refine jr_if_ne rfl (fun z => absurd (by decide) z) (fun _ => ?_)
  refine jr_ic rfl ?_
  refine jr_goto rfl ?_
  refine jr_zret rfl rfl rfl (Nat.zero_le _) (Nat.zero_le _) ?_
  exact hQ

