theorem jn_c (n : Nat) : (OfNat.ofNat n : Int32) = nI n := rfl
theorem jn_add {x y : Int32} {a b : Nat} (h1 : x = nI a) (h2 : y = nI b) : x + y = nI (a + b) := by rw [h1, h2, nI_add]
theorem jn_mul {x y : Int32} {a b : Nat} (h1 : x = nI a) (h2 : y = nI b) : x * y = nI (a * b) := by rw [h1, h2, pk_mul]
theorem jn_sub {x y : Int32} {a b : Nat} (h1 : x = nI a) (h2 : y = nI b) (h : b ≤ a) : x - y = nI (a - b) := by rw [h1, h2, pk_sub h]
theorem jq_pos {P : Prop} [Decidable P] {a b : Int32} {Q : Option jx_V → jx_H → Prop} {h : jx_H} (hQ : Q (some (jv_i (if P then a else b))) h) (c : P) : Q (some (jv_i a)) h := by rw [if_pos c] at hQ; exact hQ
theorem jq_neg {P : Prop} [Decidable P] {a b : Int32} {Q : Option jx_V → jx_H → Prop} {h : jx_H} (hQ : Q (some (jv_i (if P then a else b))) h) (c : ¬ P) : Q (some (jv_i b)) h := by rw [if_neg c] at hQ; exact hQ
set_option maxHeartbeats 4000000 in
set_option maxRecDepth 100000 in
theorem ev_MD_isLetter {d : Nat} {al : Bool} {h : jx_H} {Q : Option jx_V → jx_H → Prop} {c : Int32} {sd : Nat} (hQ : Q (some (jv_i (if 97 ≤ c ∧ c ≤ 122 then 1 else 0))) h) : jx_Ev jm_MD_isLetter (d) 0 0 al sd [jv_i c] h Q := by
  show jx_W (jm_MD_isLetter, d, 0, 0, al, sd, jh_n h) Q 0 0 0 [some (jv_i c)] [] h
  refine jr_iload rfl rfl ?_
  refine jr_ic rfl ?_
  refine jr_icmp_lt rfl (fun c2 => ?_) (fun c2 => ?_)
  · refine jr_ic rfl ?_
    refine jr_zret rfl rfl rfl (Nat.zero_le _) (Nat.zero_le _) ?_
    first | exact jq_pos hQ (by clear hQ; simp only [Int32.lt_iff_toInt_lt, Int32.le_iff_toInt_le, Int32.reduceToInt] at *; omega) | exact jq_neg hQ (by clear hQ; simp only [Int32.lt_iff_toInt_lt, Int32.le_iff_toInt_le, Int32.reduceToInt] at *; omega)
  · refine jr_iload rfl rfl ?_
    refine jr_ic rfl ?_
    refine jr_icmp_gt rfl (fun c5 => ?_) (fun c5 => ?_)
    · refine jr_ic rfl ?_
      refine jr_zret rfl rfl rfl (Nat.zero_le _) (Nat.zero_le _) ?_
      first | exact jq_pos hQ (by clear hQ; simp only [Int32.lt_iff_toInt_lt, Int32.le_iff_toInt_le, Int32.reduceToInt] at *; omega) | exact jq_neg hQ (by clear hQ; simp only [Int32.lt_iff_toInt_lt, Int32.le_iff_toInt_le, Int32.reduceToInt] at *; omega)
    · refine jr_ic rfl ?_
      refine jr_goto rfl ?_
      refine jr_zret rfl rfl rfl (Nat.zero_le _) (Nat.zero_le _) ?_
      first | exact jq_pos hQ (by clear hQ; simp only [Int32.lt_iff_toInt_lt, Int32.le_iff_toInt_le, Int32.reduceToInt] at *; omega) | exact jq_neg hQ (by clear hQ; simp only [Int32.lt_iff_toInt_lt, Int32.le_iff_toInt_le, Int32.reduceToInt] at *; omega)

set_option maxHeartbeats 4000000 in
set_option maxRecDepth 100000 in
theorem ev_MD_isDigit {d : Nat} {al : Bool} {h : jx_H} {Q : Option jx_V → jx_H → Prop} {c : Int32} {sd : Nat} (hQ : Q (some (jv_i (if 48 ≤ c ∧ c ≤ 57 then 1 else 0))) h) : jx_Ev jm_MD_isDigit (d) 0 0 al sd [jv_i c] h Q := by
  show jx_W (jm_MD_isDigit, d, 0, 0, al, sd, jh_n h) Q 0 0 0 [some (jv_i c)] [] h
  refine jr_iload rfl rfl ?_
  refine jr_ic rfl ?_
  refine jr_icmp_lt rfl (fun c2 => ?_) (fun c2 => ?_)
  · refine jr_ic rfl ?_
    refine jr_zret rfl rfl rfl (Nat.zero_le _) (Nat.zero_le _) ?_
    first | exact jq_pos hQ (by clear hQ; simp only [Int32.lt_iff_toInt_lt, Int32.le_iff_toInt_le, Int32.reduceToInt] at *; omega) | exact jq_neg hQ (by clear hQ; simp only [Int32.lt_iff_toInt_lt, Int32.le_iff_toInt_le, Int32.reduceToInt] at *; omega)
  · refine jr_iload rfl rfl ?_
    refine jr_ic rfl ?_
    refine jr_icmp_gt rfl (fun c5 => ?_) (fun c5 => ?_)
    · refine jr_ic rfl ?_
      refine jr_zret rfl rfl rfl (Nat.zero_le _) (Nat.zero_le _) ?_
      first | exact jq_pos hQ (by clear hQ; simp only [Int32.lt_iff_toInt_lt, Int32.le_iff_toInt_le, Int32.reduceToInt] at *; omega) | exact jq_neg hQ (by clear hQ; simp only [Int32.lt_iff_toInt_lt, Int32.le_iff_toInt_le, Int32.reduceToInt] at *; omega)
    · refine jr_ic rfl ?_
      refine jr_goto rfl ?_
      refine jr_zret rfl rfl rfl (Nat.zero_le _) (Nat.zero_le _) ?_
      first | exact jq_pos hQ (by clear hQ; simp only [Int32.lt_iff_toInt_lt, Int32.le_iff_toInt_le, Int32.reduceToInt] at *; omega) | exact jq_neg hQ (by clear hQ; simp only [Int32.lt_iff_toInt_lt, Int32.le_iff_toInt_le, Int32.reduceToInt] at *; omega)

set_option maxHeartbeats 4000000 in
set_option maxRecDepth 100000 in
theorem ev_MD_isIn {d : Nat} {al : Bool} {h : jx_H} {Q : Option jx_V → jx_H → Prop} {v a b : Int32} {sd : Nat} (hQ : Q (some (jv_i (if a ≤ v ∧ v ≤ b then 1 else 0))) h) : jx_Ev jm_MD_isIn (d) 0 0 al sd [jv_i v, jv_i a, jv_i b] h Q := by
  show jx_W (jm_MD_isIn, d, 0, 0, al, sd, jh_n h) Q 0 0 0 [some (jv_i v), some (jv_i a), some (jv_i b)] [] h
  refine jr_iload rfl rfl ?_
  refine jr_iload rfl rfl ?_
  refine jr_icmp_lt rfl (fun c2 => ?_) (fun c2 => ?_)
  · refine jr_ic rfl ?_
    refine jr_zret rfl rfl rfl (Nat.zero_le _) (Nat.zero_le _) ?_
    first | exact jq_pos hQ (by clear hQ; simp only [Int32.lt_iff_toInt_lt, Int32.le_iff_toInt_le, Int32.reduceToInt] at *; omega) | exact jq_neg hQ (by clear hQ; simp only [Int32.lt_iff_toInt_lt, Int32.le_iff_toInt_le, Int32.reduceToInt] at *; omega)
  · refine jr_iload rfl rfl ?_
    refine jr_iload rfl rfl ?_
    refine jr_icmp_gt rfl (fun c5 => ?_) (fun c5 => ?_)
    · refine jr_ic rfl ?_
      refine jr_zret rfl rfl rfl (Nat.zero_le _) (Nat.zero_le _) ?_
      first | exact jq_pos hQ (by clear hQ; simp only [Int32.lt_iff_toInt_lt, Int32.le_iff_toInt_le, Int32.reduceToInt] at *; omega) | exact jq_neg hQ (by clear hQ; simp only [Int32.lt_iff_toInt_lt, Int32.le_iff_toInt_le, Int32.reduceToInt] at *; omega)
    · refine jr_ic rfl ?_
      refine jr_goto rfl ?_
      refine jr_zret rfl rfl rfl (Nat.zero_le _) (Nat.zero_le _) ?_
      first | exact jq_pos hQ (by clear hQ; simp only [Int32.lt_iff_toInt_lt, Int32.le_iff_toInt_le, Int32.reduceToInt] at *; omega) | exact jq_neg hQ (by clear hQ; simp only [Int32.lt_iff_toInt_lt, Int32.le_iff_toInt_le, Int32.reduceToInt] at *; omega)

set_option maxHeartbeats 4000000 in
set_option maxRecDepth 100000 in
theorem ev_MD_hasMonths {d : Nat} {h : jx_H} {Q : Option jx_V → jx_H → Prop} {bk : Nat} (hb : jh_I h 11 0 43 = nI bk) (hbk : bk < 2) (hQ : Q (some (jv_i (if 0 < jh_I h 66 0 bk then 1 else 0))) h) : jx_Ev jm_MD_hasMonths (d) 0 0 false 1 [jv_r 11 0] h Q := by
  show jx_W (jm_MD_hasMonths, d, 0, 0, false, 1, jh_n h) Q 0 0 0 [some (jv_r 11 0)] [] h
  refine jr_aload rfl rfl ?_
  refine jr_getR rfl rfl rfl rfl (Or.inl rfl) ?_
  refine jr_aload rfl rfl ?_
  refine jr_getI rfl rfl ?_
  refine jr_iald (len := 2) rfl rfl hb (by omega) ?_
  refine jr_if_le rfl (fun c5 => ?_) (fun c5 => ?_)
  · refine jr_ic rfl ?_
    refine jr_zret rfl rfl rfl (Nat.zero_le _) (Nat.zero_le _) ?_
    first | exact jq_pos hQ (by clear hQ; simp only [Int32.lt_iff_toInt_lt, Int32.le_iff_toInt_le, Int32.reduceToInt] at *; omega) | exact jq_neg hQ (by clear hQ; simp only [Int32.lt_iff_toInt_lt, Int32.le_iff_toInt_le, Int32.reduceToInt] at *; omega)
  · refine jr_ic rfl ?_
    refine jr_goto rfl ?_
    refine jr_zret rfl rfl rfl (Nat.zero_le _) (Nat.zero_le _) ?_
    first | exact jq_pos hQ (by clear hQ; simp only [Int32.lt_iff_toInt_lt, Int32.le_iff_toInt_le, Int32.reduceToInt] at *; omega) | exact jq_neg hQ (by clear hQ; simp only [Int32.lt_iff_toInt_lt, Int32.le_iff_toInt_le, Int32.reduceToInt] at *; omega)

set_option maxHeartbeats 4000000 in
set_option maxRecDepth 100000 in
theorem ev_Str_coder {d : Nat} {al : Bool} {h : jx_H} {Q : Option jx_V → jx_H → Prop} {i sd : Nat} (hQ : Q (some (jv_i 0)) h) : jx_Ev jm_Str_coder (d) 0 0 al sd [jv_r 12 i] h Q := by
  show jx_W (jm_Str_coder, d, 0, 0, al, sd, jh_n h) Q 0 0 0 [some (jv_r 12 i)] [] h
  refine jr_stC rfl ?_
  refine jr_if_eq rfl (fun z => absurd z (by decide)) (fun _ => ?_)
  refine jr_aload rfl rfl ?_
  refine jr_strC rfl ?_
  refine jr_goto rfl ?_
  refine jr_zret rfl rfl rfl (Nat.zero_le _) (Nat.zero_le _) ?_
  exact hQ

set_option maxHeartbeats 4000000 in
set_option maxRecDepth 100000 in
theorem ev_Str_isLatin1 {d : Nat} {al : Bool} {h : jx_H} {Q : Option jx_V → jx_H → Prop} {i sd : Nat} (hQ : Q (some (jv_i 1)) h) : jx_Ev jm_Str_isLatin1 (d) 0 0 al sd [jv_r 12 i] h Q := by
  show jx_W (jm_Str_isLatin1, d, 0, 0, al, sd, jh_n h) Q 0 0 0 [some (jv_r 12 i)] [] h
  refine jr_stC rfl ?_
  refine jr_if_eq rfl (fun z => absurd z (by decide)) (fun _ => ?_)
  refine jr_aload rfl rfl ?_
  refine jr_strC rfl ?_
  refine jr_if_ne rfl (fun z => absurd (by decide) z) (fun _ => ?_)
  refine jr_ic rfl ?_
  refine jr_goto rfl ?_
  refine jr_zret rfl rfl rfl (Nat.zero_le _) (Nat.zero_le _) ?_
  exact hQ

theorem jc_lt {k n : Nat} (c : ¬ nI n ≤ nI k) (hk : k < 2 ^ 31) (hn : n < 2 ^ 31) : k < n := by
  rw [Int32.le_iff_toInt_le, nI_toInt hn, nI_toInt hk] at c; omega
theorem jc_ge {k n : Nat} (c : nI n ≤ nI k) (hk : k < 2 ^ 31) (hn : n < 2 ^ 31) : n ≤ k := by
  rw [Int32.le_iff_toInt_le, nI_toInt hn, nI_toInt hk] at c; omega
theorem jn_S (k : Nat) : nI k + 1 = nI (k + 1) := jn_add rfl (jn_c 1)
theorem jc_shr0 (x : Int32) : x >>> ((0 : Int32) &&& 31) = x := by
  rw [show (0 : Int32) &&& 31 = 0 from rfl]; simp
def jx_fnd (i : Nat) (b : Int32) (n k : Nat) : Int32 := if k < n then (if jx_bytS i k = b then nI k else jx_fnd i b n (k + 1)) else -1
termination_by n - k
set_option maxHeartbeats 4000000 in
set_option maxRecDepth 100000 in
theorem ev_Str_length {d : Nat} {al : Bool} {h : jx_H} {Q : Option jx_V → jx_H → Prop} {i sd : Nat} (hQ : Q (some (jv_i (nI (jx_lenS i)))) h) : jx_Ev jm_Str_length (d + 1) 0 0 al sd [jv_r 12 i] h Q := by
  show jx_W (jm_Str_length, d + 1, 0, 0, al, sd, jh_n h) Q 0 0 0 [some (jv_r 12 i)] [] h
  refine jr_aload rfl rfl ?_
  refine jr_strV rfl ?_
  refine jr_tlen rfl ?_
  refine jr_aload rfl rfl ?_
  refine jr_ct0 (mc' := 0) (ms' := 0) rfl jm_Str_coder_n jm_Str_coder_f rfl rfl rfl rfl rfl rfl (Nat.zero_le _) (Nat.zero_le _) ?_
  refine ev_Str_coder ?_
  refine jr_ishr rfl ?_
  refine jr_iret rfl rfl (Nat.zero_le _) (Nat.zero_le _) ?_
  rw [jc_shr0]; exact hQ

set_option maxHeartbeats 4000000 in
set_option maxRecDepth 100000 in
theorem lp_Lat_ioc {d : Nat} {al : Bool} {Q : Option jx_V → jx_H → Prop} {i sd n0 : Nat} {c w b : Int32} {m : Nat} (k : Nat) {h : jx_H} (hm : m ≤ jx_lenS i) (hl : jx_lenS i < 2147483648) (hk : k ≤ m) (hQ : Q (some (jv_i (jx_fnd i b m k))) h) : jx_W (jm_Lat_indexOfChar, d, 0, 0, al, sd, n0) Q 0 0 5 [some (jv_r 13 i), some (jv_i c), some (jv_i w), some (jv_i (nI m)), some (jv_i b), some (jv_i (nI k))] [] h := by
  refine jr_iload rfl rfl ?_
  refine jr_iload rfl rfl ?_
  refine jr_icmp_ge rfl (fun c7 => ?_) (fun c7 => ?_)
  · refine jr_ic rfl ?_
    refine jr_iret rfl rfl (Nat.zero_le _) (Nat.zero_le _) ?_
    have := jc_ge c7 (by omega) (by omega); rw [jx_fnd, if_neg (by omega)] at hQ; exact hQ
  · refine jr_aload rfl rfl ?_
    refine jr_iload rfl rfl ?_
    refine jr_tald rfl rfl (by have := jc_lt c7 (by omega) (by omega); omega) (by assumption) ?_
    refine jr_iload rfl rfl ?_
    refine jr_icmp_ne rfl (fun c12 => ?_) (fun c12 => ?_)
    · refine jr_iinc5 rfl rfl ?_
      refine jr_goto rfl ?_
      rw [jn_S]; exact lp_Lat_ioc (k + 1) hm hl (by have := jc_lt c7 (by omega) (by omega); omega) (by rw [jx_fnd, if_pos (jc_lt c7 (by omega) (by omega)), if_neg c12] at hQ; exact hQ)
    · refine jr_iload rfl rfl ?_
      refine jr_iret rfl rfl (Nat.zero_le _) (Nat.zero_le _) ?_
      rw [jx_fnd, if_pos (jc_lt c7 (by omega) (by omega)), if_pos c12] at hQ; exact hQ
termination_by m - k
decreasing_by (have := jc_lt c7 (by omega) (by omega); omega)

set_option maxHeartbeats 4000000 in
set_option maxRecDepth 100000 in
theorem ev_Lat_indexOfChar {d : Nat} {al : Bool} {h : jx_H} {Q : Option jx_V → jx_H → Prop} {i sd k m : Nat} {c : Int32} (hm : m ≤ jx_lenS i) (hl : jx_lenS i < 2147483648) (hk : k ≤ m) (hQ : Q (some (jv_i (jx_fnd i c.toInt8.toInt32 m k))) h) : jx_Ev jm_Lat_indexOfChar (d) 0 0 al sd [jv_r 13 i, jv_i c, jv_i (nI k), jv_i (nI m)] h Q := by
  show jx_W (jm_Lat_indexOfChar, d, 0, 0, al, sd, jh_n h) Q 0 0 0 [some (jv_r 13 i), some (jv_i c), some (jv_i (nI k)), some (jv_i (nI m)), none, none] [] h
  refine jr_iload rfl rfl ?_
  refine jr_i2b rfl ?_
  refine jr_ist4 rfl rfl ?_
  refine jr_iload rfl rfl ?_
  refine jr_ist5 rfl rfl ?_
  exact lp_Lat_ioc k hm hl hk hQ

set_option maxHeartbeats 4000000 in
set_option maxRecDepth 100000 in
theorem ev_Math_max {d : Nat} {al : Bool} {h : jx_H} {Q : Option jx_V → jx_H → Prop} {a b : Int32} {sd : Nat} (hQ : Q (some (jv_i (if b ≤ a then a else b))) h) : jx_Ev jm_Math_max (d) 0 0 al sd [jv_i a, jv_i b] h Q := by
  show jx_W (jm_Math_max, d, 0, 0, al, sd, jh_n h) Q 0 0 0 [some (jv_i a), some (jv_i b)] [] h
  refine jr_iload rfl rfl ?_
  refine jr_iload rfl rfl ?_
  refine jr_icmp_lt rfl (fun c2 => ?_) (fun c2 => ?_)
  · refine jr_iload rfl rfl ?_
    refine jr_iret rfl rfl (Nat.zero_le _) (Nat.zero_le _) ?_
    first | exact jq_pos hQ (by clear hQ; simp only [Int32.lt_iff_toInt_lt, Int32.le_iff_toInt_le, Int32.reduceToInt] at *; omega) | exact jq_neg hQ (by clear hQ; simp only [Int32.lt_iff_toInt_lt, Int32.le_iff_toInt_le, Int32.reduceToInt] at *; omega)
  · refine jr_iload rfl rfl ?_
    refine jr_goto rfl ?_
    refine jr_iret rfl rfl (Nat.zero_le _) (Nat.zero_le _) ?_
    first | exact jq_pos hQ (by clear hQ; simp only [Int32.lt_iff_toInt_lt, Int32.le_iff_toInt_le, Int32.reduceToInt] at *; omega) | exact jq_neg hQ (by clear hQ; simp only [Int32.lt_iff_toInt_lt, Int32.le_iff_toInt_le, Int32.reduceToInt] at *; omega)

set_option maxHeartbeats 4000000 in
set_option maxRecDepth 100000 in
theorem ev_Math_min {d : Nat} {al : Bool} {h : jx_H} {Q : Option jx_V → jx_H → Prop} {a b : Int32} {sd : Nat} (hQ : Q (some (jv_i (if a ≤ b then a else b))) h) : jx_Ev jm_Math_min (d) 0 0 al sd [jv_i a, jv_i b] h Q := by
  show jx_W (jm_Math_min, d, 0, 0, al, sd, jh_n h) Q 0 0 0 [some (jv_i a), some (jv_i b)] [] h
  refine jr_iload rfl rfl ?_
  refine jr_iload rfl rfl ?_
  refine jr_icmp_gt rfl (fun c2 => ?_) (fun c2 => ?_)
  · refine jr_iload rfl rfl ?_
    refine jr_iret rfl rfl (Nat.zero_le _) (Nat.zero_le _) ?_
    first | exact jq_pos hQ (by clear hQ; simp only [Int32.lt_iff_toInt_lt, Int32.le_iff_toInt_le, Int32.reduceToInt] at *; omega) | exact jq_neg hQ (by clear hQ; simp only [Int32.lt_iff_toInt_lt, Int32.le_iff_toInt_le, Int32.reduceToInt] at *; omega)
  · refine jr_iload rfl rfl ?_
    refine jr_goto rfl ?_
    refine jr_iret rfl rfl (Nat.zero_le _) (Nat.zero_le _) ?_
    first | exact jq_pos hQ (by clear hQ; simp only [Int32.lt_iff_toInt_lt, Int32.le_iff_toInt_le, Int32.reduceToInt] at *; omega) | exact jq_neg hQ (by clear hQ; simp only [Int32.lt_iff_toInt_lt, Int32.le_iff_toInt_le, Int32.reduceToInt] at *; omega)

set_option maxHeartbeats 4000000 in
set_option maxRecDepth 100000 in
theorem ev_Math_abs {d : Nat} {al : Bool} {h : jx_H} {Q : Option jx_V → jx_H → Prop} {a : Int32} {sd : Nat} (hQ : Q (some (jv_i (if 0 ≤ a then a else -a))) h) : jx_Ev jm_Math_abs (d) 0 0 al sd [jv_i a] h Q := by
  show jx_W (jm_Math_abs, d, 0, 0, al, sd, jh_n h) Q 0 0 0 [some (jv_i a)] [] h
  refine jr_iload rfl rfl ?_
  refine jr_if_ge rfl (fun c1 => ?_) (fun c1 => ?_)
  · refine jr_iload rfl rfl ?_
    refine jr_iret rfl rfl (Nat.zero_le _) (Nat.zero_le _) ?_
    first | exact jq_pos hQ (by clear hQ; simp only [Int32.lt_iff_toInt_lt, Int32.le_iff_toInt_le, Int32.reduceToInt] at *; omega) | exact jq_neg hQ (by clear hQ; simp only [Int32.lt_iff_toInt_lt, Int32.le_iff_toInt_le, Int32.reduceToInt] at *; omega)
  · refine jr_iload rfl rfl ?_
    refine jr_ineg rfl ?_
    refine jr_goto rfl ?_
    refine jr_iret rfl rfl (Nat.zero_le _) (Nat.zero_le _) ?_
    first | exact jq_pos hQ (by clear hQ; simp only [Int32.lt_iff_toInt_lt, Int32.le_iff_toInt_le, Int32.reduceToInt] at *; omega) | exact jq_neg hQ (by clear hQ; simp only [Int32.lt_iff_toInt_lt, Int32.le_iff_toInt_le, Int32.reduceToInt] at *; omega)

def jf_mod (x y : Int32) : Int32 := if (x ^^^ y < 0) ∧ x - x / y * y ≠ 0 then x - x / y * y + y else x - x / y * y
def jf_div (x y : Int32) : Int32 := if (x ^^^ y < 0) ∧ x / y * y ≠ x then x / y - 1 else x / y
set_option maxHeartbeats 4000000 in
set_option maxRecDepth 100000 in
theorem ev_Lat_canEncode {d : Nat} {al : Bool} {h : jx_H} {Q : Option jx_V → jx_H → Prop} {c : Int32} {sd : Nat} (hQ : Q (some (jv_i (if 0 ≤ c ∧ c ≤ 255 then 1 else 0))) h) : jx_Ev jm_Lat_canEncode (d) 0 0 al sd [jv_i c] h Q := by
  show jx_W (jm_Lat_canEncode, d, 0, 0, al, sd, jh_n h) Q 0 0 0 [some (jv_i c)] [] h
  refine jr_iload rfl rfl ?_
  refine jr_if_lt rfl (fun c1 => ?_) (fun c1 => ?_)
  · refine jr_ic rfl ?_
    refine jr_zret rfl rfl rfl (Nat.zero_le _) (Nat.zero_le _) ?_
    first | exact jq_pos hQ (by clear hQ; simp only [Int32.lt_iff_toInt_lt, Int32.le_iff_toInt_le, Int32.reduceToInt] at *; omega) | exact jq_neg hQ (by clear hQ; simp only [Int32.lt_iff_toInt_lt, Int32.le_iff_toInt_le, Int32.reduceToInt] at *; omega)
  · refine jr_iload rfl rfl ?_
    refine jr_ic rfl ?_
    refine jr_icmp_gt rfl (fun c4 => ?_) (fun c4 => ?_)
    · refine jr_ic rfl ?_
      refine jr_zret rfl rfl rfl (Nat.zero_le _) (Nat.zero_le _) ?_
      first | exact jq_pos hQ (by clear hQ; simp only [Int32.lt_iff_toInt_lt, Int32.le_iff_toInt_le, Int32.reduceToInt] at *; omega) | exact jq_neg hQ (by clear hQ; simp only [Int32.lt_iff_toInt_lt, Int32.le_iff_toInt_le, Int32.reduceToInt] at *; omega)
    · refine jr_ic rfl ?_
      refine jr_goto rfl ?_
      refine jr_zret rfl rfl rfl (Nat.zero_le _) (Nat.zero_le _) ?_
      first | exact jq_pos hQ (by clear hQ; simp only [Int32.lt_iff_toInt_lt, Int32.le_iff_toInt_le, Int32.reduceToInt] at *; omega) | exact jq_neg hQ (by clear hQ; simp only [Int32.lt_iff_toInt_lt, Int32.le_iff_toInt_le, Int32.reduceToInt] at *; omega)

theorem jc_b1 {P : Prop} [Decidable P] (c : ¬ (if P then (1 : Int32) else 0) = 0) : P := by
  by_cases h : P
  · exact h
  · rw [if_neg h] at c; exact absurd rfl c
theorem jc_b0 {P : Prop} [Decidable P] (c : (if P then (1 : Int32) else 0) = 0) : ¬ P := by
  intro h; rw [if_pos h] at c; exact absurd c (by decide)
set_option maxHeartbeats 4000000 in
set_option maxRecDepth 100000 in
theorem ev_Lat_indexOf {d : Nat} {al : Bool} {h : jx_H} {Q : Option jx_V → jx_H → Prop} {i sd : Nat} {c : Int32} (hl : jx_lenS i < 2147483648) (h0 : (0 : Int32) < nI (jx_lenS i)) (hQ : Q (some (jv_i (if 0 ≤ c ∧ c ≤ 255 then jx_fnd i c.toInt8.toInt32 (jx_lenS i) 0 else -1))) h) : jx_Ev jm_Lat_indexOf (d + 1) 0 0 al sd [jv_r 13 i, jv_i c, jv_i 0, jv_i (nI (jx_lenS i))] h Q := by
  show jx_W (jm_Lat_indexOf, d + 1, 0, 0, al, sd, jh_n h) Q 0 0 0 [some (jv_r 13 i), some (jv_i c), some (jv_i 0), some (jv_i (nI (jx_lenS i)))] [] h
  refine jr_iload rfl rfl ?_
  refine jr_cs1 (mc' := 0) (ms' := 0) rfl jm_Lat_canEncode_n jm_Lat_canEncode_f rfl rfl rfl rfl rfl (Nat.zero_le _) (Nat.zero_le _) ?_
  refine ev_Lat_canEncode ?_
  refine jr_if_ne rfl (fun c2 => ?_) (fun c2 => ?_)
  · refine jr_iload rfl rfl ?_
    refine jr_ic rfl ?_
    refine jr_cs2 (mc' := 0) (ms' := 0) rfl jm_Math_max_n jm_Math_max_f rfl rfl rfl rfl rfl (Nat.zero_le _) (Nat.zero_le _) ?_
    refine ev_Math_max ?_
    rw [ite_self]
    refine jr_ist2 rfl rfl ?_
    refine jr_iload rfl rfl ?_
    refine jr_aload rfl rfl ?_
    refine jr_tlen rfl ?_
    refine jr_cs2 (mc' := 0) (ms' := 0) rfl jm_Math_min_n jm_Math_min_f rfl rfl rfl rfl rfl (Nat.zero_le _) (Nat.zero_le _) ?_
    refine ev_Math_min ?_
    rw [ite_self]
    refine jr_ist3 rfl rfl ?_
    refine jr_iload rfl rfl ?_
    refine jr_iload rfl rfl ?_
    refine jr_icmp_lt rfl (fun _ => ?_) (fun z => absurd h0 z)
    refine jr_aload rfl rfl ?_
    refine jr_iload rfl rfl ?_
    refine jr_iload rfl rfl ?_
    refine jr_iload rfl rfl ?_
    refine jr_cs4 (mc' := 0) (ms' := 0) rfl jm_Lat_indexOfChar_n jm_Lat_indexOfChar_f rfl rfl rfl rfl rfl (Nat.zero_le _) (Nat.zero_le _) ?_
    refine ev_Lat_indexOfChar (k := 0) (m := jx_lenS i) (Nat.le_refl _) hl (Nat.zero_le _) ?_
    refine jr_iret rfl rfl (Nat.zero_le _) (Nat.zero_le _) ?_
    exact jq_pos hQ (jc_b1 c2)
  · refine jr_ic rfl ?_
    refine jr_iret rfl rfl (Nat.zero_le _) (Nat.zero_le _) ?_
    exact jq_neg hQ (jc_b0 c2)

set_option maxHeartbeats 4000000 in
set_option maxRecDepth 100000 in
theorem ev_Str_indexOf2 {d : Nat} {al : Bool} {h : jx_H} {Q : Option jx_V → jx_H → Prop} {i sd : Nat} {c : Int32} (hl : jx_lenS i < 2147483648) (h0 : (0 : Int32) < nI (jx_lenS i)) (hQ : Q (some (jv_i (if 0 ≤ c ∧ c ≤ 255 then jx_fnd i c.toInt8.toInt32 (jx_lenS i) 0 else -1))) h) : jx_Ev jm_Str_indexOf2 (d + 2) 0 0 al sd [jv_r 12 i, jv_i c, jv_i 0] h Q := by
  show jx_W (jm_Str_indexOf2, d + 2, 0, 0, al, sd, jh_n h) Q 0 0 0 [some (jv_r 12 i), some (jv_i c), some (jv_i 0)] [] h
  refine jr_aload rfl rfl ?_
  refine jr_ct0 (mc' := 0) (ms' := 0) rfl jm_Str_isLatin1_n jm_Str_isLatin1_f rfl rfl rfl rfl rfl rfl (Nat.zero_le _) (Nat.zero_le _) ?_
  refine ev_Str_isLatin1 ?_
  refine jr_if_eq rfl (fun z => absurd z (by decide)) (fun _ => ?_)
  refine jr_aload rfl rfl ?_
  refine jr_strV rfl ?_
  refine jr_iload rfl rfl ?_
  refine jr_iload rfl rfl ?_
  refine jr_aload rfl rfl ?_
  refine jr_ct0 (mc' := 0) (ms' := 0) rfl jm_Str_length_n jm_Str_length_f rfl rfl rfl rfl rfl rfl (Nat.zero_le _) (Nat.zero_le _) ?_
  refine ev_Str_length ?_
  refine jr_cs4 (mc' := 0) (ms' := 0) rfl jm_Lat_indexOf_n jm_Lat_indexOf_f rfl rfl rfl rfl rfl (Nat.zero_le _) (Nat.zero_le _) ?_
  refine ev_Lat_indexOf hl h0 ?_
  refine jr_goto rfl ?_
  refine jr_iret rfl rfl (Nat.zero_le _) (Nat.zero_le _) ?_
  exact hQ

set_option maxHeartbeats 4000000 in
set_option maxRecDepth 100000 in
theorem ev_Str_indexOf {d : Nat} {al : Bool} {h : jx_H} {Q : Option jx_V → jx_H → Prop} {i sd : Nat} {c : Int32} (hl : jx_lenS i < 2147483648) (h0 : (0 : Int32) < nI (jx_lenS i)) (hQ : Q (some (jv_i (if 0 ≤ c ∧ c ≤ 255 then jx_fnd i c.toInt8.toInt32 (jx_lenS i) 0 else -1))) h) : jx_Ev jm_Str_indexOf (d + 3) 0 0 al sd [jv_r 12 i, jv_i c] h Q := by
  show jx_W (jm_Str_indexOf, d + 3, 0, 0, al, sd, jh_n h) Q 0 0 0 [some (jv_r 12 i), some (jv_i c)] [] h
  refine jr_aload rfl rfl ?_
  refine jr_iload rfl rfl ?_
  refine jr_ic rfl ?_
  refine jr_ct2 (mc' := 0) (ms' := 0) rfl jm_Str_indexOf2_n jm_Str_indexOf2_f rfl rfl rfl rfl rfl rfl (Nat.zero_le _) (Nat.zero_le _) ?_
  refine ev_Str_indexOf2 hl h0 ?_
  refine jr_iret rfl rfl (Nat.zero_le _) (Nat.zero_le _) ?_
  exact hQ

set_option maxHeartbeats 4000000 in
set_option maxRecDepth 100000 in
theorem ev_Pre_checkIndex {d : Nat} {al : Bool} {h : jx_H} {Q : Option jx_V → jx_H → Prop} {a b : Int32} {sd : Nat} (h0 : ¬ a < 0) (hb : a < b) (hQ : Q (some (jv_i a)) h) : jx_Ev jm_Pre_checkIndex (d) 0 0 al sd [jv_i a, jv_i b, jv_r 14 0] h Q := by
  show jx_W (jm_Pre_checkIndex, d, 0, 0, al, sd, jh_n h) Q 0 0 0 [some (jv_i a), some (jv_i b), some (jv_r 14 0)] [] h
  refine jr_iload rfl rfl ?_
  refine jr_if_lt rfl (fun z => absurd z h0) (fun _ => ?_)
  refine jr_iload rfl rfl ?_
  refine jr_iload rfl rfl ?_
  refine jr_icmp_lt rfl (fun _ => ?_) (fun z => absurd hb z)
  refine jr_iload rfl rfl ?_
  refine jr_iret rfl rfl (Nat.zero_le _) (Nat.zero_le _) ?_
  exact hQ

set_option maxHeartbeats 4000000 in
set_option maxRecDepth 100000 in
theorem ev_Str_checkIndex {d : Nat} {al : Bool} {h : jx_H} {Q : Option jx_V → jx_H → Prop} {a b : Int32} {sd : Nat} (h0 : ¬ a < 0) (hb : a < b) (hQ : Q none h) : jx_Ev jm_Str_checkIndex (d + 1) 0 0 al sd [jv_i a, jv_i b] h Q := by
  show jx_W (jm_Str_checkIndex, d + 1, 0, 0, al, sd, jh_n h) Q 0 0 0 [some (jv_i a), some (jv_i b)] [] h
  refine jr_iload rfl rfl ?_
  refine jr_iload rfl rfl ?_
  refine jr_stF rfl ?_
  refine jr_cs3 (mc' := 0) (ms' := 0) rfl jm_Pre_checkIndex_n jm_Pre_checkIndex_f rfl rfl rfl rfl rfl (Nat.zero_le _) (Nat.zero_le _) ?_
  refine ev_Pre_checkIndex h0 hb ?_
  refine jr_pop rfl ?_
  refine jr_vret rfl rfl (Nat.zero_le _) (Nat.zero_le _) ?_
  exact hQ

set_option maxHeartbeats 4000000 in
set_option maxRecDepth 100000 in
theorem ev_Lat_charAt {d : Nat} {al : Bool} {h : jx_H} {Q : Option jx_V → jx_H → Prop} {i sd m : Nat} (hl : jx_lenS i < 2147483648) (hm : m < jx_lenS i) (hQ : Q (some (jv_i (((jx_bytS i m &&& 255).toUInt32 % 65536).toInt32))) h) : jx_Ev jm_Lat_charAt (d + 2) 0 0 al sd [jv_r 13 i, jv_i (nI m)] h Q := by
  show jx_W (jm_Lat_charAt, d + 2, 0, 0, al, sd, jh_n h) Q 0 0 0 [some (jv_r 13 i), some (jv_i (nI m))] [] h
  refine jr_iload rfl rfl ?_
  refine jr_aload rfl rfl ?_
  refine jr_tlen rfl ?_
  refine jr_cs2 (mc' := 0) (ms' := 0) rfl jm_Str_checkIndex_n jm_Str_checkIndex_f rfl rfl rfl rfl rfl (Nat.zero_le _) (Nat.zero_le _) ?_
  refine ev_Str_checkIndex (nI_pos (by omega)) (nI_lt hm (by omega)) ?_
  refine jr_aload rfl rfl ?_
  refine jr_iload rfl rfl ?_
  refine jr_tald rfl rfl hm hl ?_
  refine jr_ic rfl ?_
  refine jr_iand rfl ?_
  refine jr_i2c rfl ?_
  refine jr_zret rfl rfl (pk_nc _) (Nat.zero_le _) (Nat.zero_le _) ?_
  exact hQ

set_option maxHeartbeats 4000000 in
set_option maxRecDepth 100000 in
theorem ev_Str_charAt {d : Nat} {al : Bool} {h : jx_H} {Q : Option jx_V → jx_H → Prop} {i sd m : Nat} (hl : jx_lenS i < 2147483648) (hm : m < jx_lenS i) (hQ : Q (some (jv_i (((jx_bytS i m &&& 255).toUInt32 % 65536).toInt32))) h) : jx_Ev jm_Str_charAt (d + 3) 0 0 al sd [jv_r 12 i, jv_i (nI m)] h Q := by
  show jx_W (jm_Str_charAt, d + 3, 0, 0, al, sd, jh_n h) Q 0 0 0 [some (jv_r 12 i), some (jv_i (nI m))] [] h
  refine jr_aload rfl rfl ?_
  refine jr_ct0 (mc' := 0) (ms' := 0) rfl jm_Str_isLatin1_n jm_Str_isLatin1_f rfl rfl rfl rfl rfl rfl (Nat.zero_le _) (Nat.zero_le _) ?_
  refine ev_Str_isLatin1 ?_
  refine jr_if_eq rfl (fun z => absurd z (by decide)) (fun _ => ?_)
  refine jr_aload rfl rfl ?_
  refine jr_strV rfl ?_
  refine jr_iload rfl rfl ?_
  refine jr_cs2 (mc' := 0) (ms' := 0) rfl jm_Lat_charAt_n jm_Lat_charAt_f rfl rfl rfl rfl rfl (Nat.zero_le _) (Nat.zero_le _) ?_
  refine ev_Lat_charAt hl hm ?_
  refine jr_zret rfl rfl (pk_nc _) (Nat.zero_le _) (Nat.zero_le _) ?_
  exact hQ

