def jT_run (p : Nat → Bool) : Nat → Nat → Nat
  | 0, i => i
  | n + 1, i => if p i = true then jT_run p n (i + 1) else i
theorem jT_run_b {p : Nat → Bool} : ∀ n i, i ≤ jT_run p n i ∧ jT_run p n i ≤ i + n
  | 0, i => ⟨Nat.le_refl _, Nat.le_refl _⟩
  | n + 1, i => by
    rw [jT_run]
    split
    · have := jT_run_b (p := p) n (i + 1)
      omega
    · omega
theorem jT_run_in {p : Nat → Bool} : ∀ n i j, i ≤ j → j < jT_run p n i → p j = true
  | 0, i, j, h1, h2 => by
    rw [jT_run] at h2
    omega
  | n + 1, i, j, h1, h2 => by
    rw [jT_run] at h2
    split at h2
    · by_cases e : j = i
      · rw [e]; assumption
      · exact jT_run_in n (i + 1) j (by omega) h2
    · omega
theorem jT_run_stop {p : Nat → Bool} : ∀ n i, jT_run p n i < i + n → p (jT_run p n i) = false
  | 0, i, h => by
    rw [jT_run] at h
    omega
  | n + 1, i, h => by
    rw [jT_run] at h ⊢
    split
    · rename_i e
      rw [if_pos e] at h
      exact jT_run_stop n (i + 1) (by omega)
    · rename_i e
      exact Bool.eq_false_iff.mpr e
theorem jT_run_s {p : Nat → Bool} {sz i : Nat} (h : i < sz) : jT_run p (sz - i) i = if p i = true then jT_run p (sz - (i + 1)) (i + 1) else i := by
  rw [show sz - i = (sz - (i + 1)) + 1 by omega, jT_run]
theorem jT_run_0 {p : Nat → Bool} {sz i : Nat} (h : sz ≤ i) : jT_run p (sz - i) i = i := by
  rw [show sz - i = 0 by omega, jT_run]
theorem jT_255 (x : Int32) : ∃ n : Nat, n < 256 ∧ x &&& 255 = nI n := by
  refine ⟨(x &&& 255).toBitVec.toNat, ?_, ?_⟩
  · have : (x &&& 255).toBitVec.toNat = x.toBitVec.toNat &&& 255 := by simp
    rw [this]
    exact Nat.lt_of_le_of_lt Nat.and_le_right (by decide)
  · exact Int32.toBitVec_inj.mp (by simp [nI])
def jT_c (B : Nat → Int32) (sz i : Nat) : Nat := if i < sz then (B i &&& 255).toNatClampNeg else 0
def jT_b (c : Nat) : Bool := Nat.beq c 32 || Nat.beq c 10
def jT_l (c : Nat) : Bool := Nat.ble 97 c && Nat.ble c 122
def jT_d (c : Nat) : Bool := Nat.ble 48 c && Nat.ble c 57
theorem jT_b_iff {c : Nat} : jT_b c = true ↔ c = 32 ∨ c = 10 := by simp [jT_b]
theorem jT_l_iff {c : Nat} : jT_l c = true ↔ 97 ≤ c ∧ c ≤ 122 := by simp [jT_l]
theorem jT_d_iff {c : Nat} : jT_d c = true ↔ 48 ≤ c ∧ c ≤ 57 := by simp [jT_d]
def jT_sg (c : Nat) : Bool := [59, 40, 41, 60, 62, 61, 43, 45, 42, 47, 37].contains c
/-! words -/
def jT_w (c : Nat → Nat) : Nat → Nat → List Nat
  | 0, _ => []
  | n + 1, i => c i :: jT_w c n (i + 1)
theorem jT_w_len {c : Nat → Nat} : ∀ n i, (jT_w c n i).length = n
  | 0, _ => rfl
  | n + 1, i => by rw [jT_w, List.length_cons, jT_w_len]
theorem jT_w_in {c : Nat → Nat} : ∀ n i x, x ∈ jT_w c n i → ∃ j, i ≤ j ∧ j < i + n ∧ x = c j
  | 0, i, x, h => by cases h
  | n + 1, i, x, h => by
    rw [jT_w, List.mem_cons] at h
    rcases h with h | h
    · exact ⟨i, Nat.le_refl _, by omega, h⟩
    · obtain ⟨j, h1, h2, h3⟩ := jT_w_in n (i + 1) x h
      exact ⟨j, by omega, by omega, h3⟩
def jT_g (M o : Nat) : List Nat → Nat
  | [] => 0
  | c :: r => jT_g M o r * M + (c - o)
theorem jT_g_inj {M o : Nat} (hM : 0 < M) : ∀ {w w' : List Nat}, (∀ c, c ∈ w → o < c ∧ c - o < M) → (∀ c, c ∈ w' → o < c ∧ c - o < M) → jT_g M o w = jT_g M o w' → w = w'
  | [], [], _, _, _ => rfl
  | [], c :: r, _, h, e => by
    have := h c (List.mem_cons_self)
    rw [jT_g, jT_g] at e
    omega
  | c :: r, [], h, _, e => by
    have := h c (List.mem_cons_self)
    rw [jT_g, jT_g] at e
    omega
  | c :: r, c' :: r', h, h', e => by
    have h1 := h c (List.mem_cons_self)
    have h2 := h' c' (List.mem_cons_self)
    rw [jT_g, jT_g] at e
    have e1 : (jT_g M o r * M + (c - o)) % M = (jT_g M o r' * M + (c' - o)) % M := by rw [e]
    rw [Nat.mul_comm _ M, Nat.mul_comm _ M, Nat.mul_add_mod, Nat.mul_add_mod, Nat.mod_eq_of_lt h1.2, Nat.mod_eq_of_lt h2.2] at e1
    have e2 : jT_g M o r * M = jT_g M o r' * M := by omega
    have e3 := Nat.eq_of_mul_eq_mul_right hM e2
    rw [jT_g_inj hM (fun x hx => h x (List.mem_cons_of_mem _ hx)) (fun x hx => h' x (List.mem_cons_of_mem _ hx)) e3, show c = c' by omega]
theorem jT_g_lt {M o : Nat} (hM : 0 < M) : ∀ {w : List Nat}, (∀ c, c ∈ w → o < c ∧ c - o < M) → jT_g M o w < M ^ w.length
  | [], _ => by rw [jT_g, List.length_nil, Nat.pow_zero]; exact Nat.one_pos
  | c :: r, h => by
    have h1 := h c (List.mem_cons_self)
    have ih := jT_g_lt hM (w := r) (fun x hx => h x (List.mem_cons_of_mem _ hx))
    rw [jT_g, List.length_cons, Nat.pow_succ]
    have : (jT_g M o r + 1) * M ≤ M ^ r.length * M := Nat.mul_le_mul_right _ ih
    rw [Nat.add_mul, Nat.one_mul] at this
    omega
theorem jT_lN_inj {a b : Nat} (ha : a < 2 ^ 63) (hb : b < 2 ^ 63) (h : lN a = lN b) : a = b := by
  have h1 : (Int64.ofNat a).toBitVec.toNat = (Int64.ofNat b).toBitVec.toNat := congrArg (fun z : Int64 => z.toBitVec.toNat) h
  simp only [Int64.toBitVec_ofNat', BitVec.toNat_ofNat] at h1
  omega
def jT_letters (w : List Nat) : Prop := ∀ c, c ∈ w → 97 ≤ c ∧ c ≤ 122
theorem jT_key5 : ∀ (w : List Nat), jT_letters w → jy_key w = lN (jT_g 32 96 w.reverse) := by
  intro w
  suffices h : ∀ (w r : List Nat), jT_letters w → w.foldl (fun k c => k * 32 + (lN c - 97 + 1)) (lN (jT_g 32 96 r)) = lN (jT_g 32 96 (w.reverse ++ r)) by
    intro hw
    have := h w [] hw
    rw [List.append_nil] at this
    exact this
  intro w
  induction w with
  | nil => intro r _; rfl
  | cons c w ih =>
    intro r hw
    have hc := hw c (List.mem_cons_self)
    have e : (lN (jT_g 32 96 r)) * 32 + (lN c - 97 + 1) = lN (jT_g 32 96 (c :: r)) := by
      have e1 : lN c - 97 + 1 = lN (c - 96) := by
        have : lN c = lN (c - 97) + lN 97 := by rw [lN_add]; congr 1; omega
        rw [this]
        show lN (c - 97) + lN 97 - lN 97 + lN 1 = _
        rw [Int64.add_sub_cancel, lN_add]
        congr 1
        omega
      rw [e1]
      show lN _ * lN 32 + _ = _
      rw [lN_mul, lN_add, jT_g]
    rw [List.foldl_cons, e, ih (c :: r) (fun x hx => hw x (List.mem_cons_of_mem _ hx)), List.reverse_cons, List.append_assoc]
    rfl
def jT_key (w : List Nat) : Int64 := w.foldl (fun (k : Int64) (c : Nat) => k <<< 8 ||| lN c) 0
theorem jT_sh {k c : Nat} (hk : k < 2 ^ 56) (hc : c < 256) : (lN k) <<< 8 ||| lN c = lN (k * 256 + c) := by
  apply Int64.toBitVec_inj.mp
  apply BitVec.eq_of_toNat_eq
  have e1 : (lN k <<< 8 ||| lN c).toBitVec = BitVec.ofNat 64 k <<< 8 ||| BitVec.ofNat 64 c := by
    simp [lN]
  rw [e1]
  simp only [lN, Int64.toBitVec_ofNat', BitVec.toNat_or, BitVec.toNat_shiftLeft, BitVec.toNat_ofNat]
  rw [Nat.mod_eq_of_lt (show k < 2 ^ 64 by omega), Nat.mod_eq_of_lt (show c < 2 ^ 64 by omega), Nat.mod_eq_of_lt (show k * 256 + c < 2 ^ 64 by omega), Nat.shiftLeft_eq, Nat.mod_eq_of_lt (show k * 2 ^ 8 < 2 ^ 64 by omega)]
  have := Nat.shiftLeft_add_eq_or_of_lt (i := 8) (b := c) (by omega) k
  rw [Nat.shiftLeft_eq] at this
  exact this.symm
theorem jT_key8 (w : List Nat) (hw : jT_letters w) (hl : w.length ≤ 8) : jT_key w = lN (jT_g 256 0 w.reverse) := by
  suffices h : ∀ (w r : List Nat), jT_letters w → jT_letters r → w.length + r.length ≤ 8 → w.foldl (fun (k : Int64) (c : Nat) => k <<< 8 ||| lN c) (lN (jT_g 256 0 r)) = lN (jT_g 256 0 (w.reverse ++ r)) by
    have := h w [] hw (fun x hx => by cases hx) (by simpa using hl)
    rw [List.append_nil] at this
    exact this
  clear hw hl
  intro w
  induction w with
  | nil => intro r _ _ _; rfl
  | cons c w ih =>
    intro r hw hr hl
    have hc := hw c (List.mem_cons_self)
    rw [List.length_cons] at hl
    have hlt := jT_g_lt (M := 256) (o := 0) (by decide) (w := r) (fun x hx => by have := hr x hx; omega)
    have hp : 256 ^ r.length ≤ 256 ^ 7 := Nat.pow_le_pow_right (by decide) (by omega)
    have e : (lN (jT_g 256 0 r)) <<< 8 ||| lN c = lN (jT_g 256 0 (c :: r)) := by
      rw [jT_sh (by have : (256 : Nat) ^ 7 = 2 ^ 56 := by decide
                    omega) (by omega), jT_g, Nat.sub_zero]
    rw [List.foldl_cons, e, ih (c :: r) (fun x hx => hw x (List.mem_cons_of_mem _ hx)) (fun x hx => by
      rcases List.mem_cons.mp hx with hx | hx
      · rw [hx]; exact hc
      · exact hr x hx) (by rw [List.length_cons]; omega), List.reverse_cons, List.append_assoc]
    rfl
theorem jT_rev {w : List Nat} {o M : Nat} (hw : jT_letters w) (ho : o < 97) (hM : 122 - o < M) : ∀ c, c ∈ w.reverse → o < c ∧ c - o < M := fun c hc => by
  have := hw c (List.mem_reverse.mp hc)
  omega
theorem jT_5 {w w' : List Nat} (hw : jT_letters w) (hw' : jT_letters w') (hl : w.length ≤ 8) (hl' : w'.length ≤ 8) : jy_key w = jy_key w' ↔ w = w' := by
  refine ⟨fun h => ?_, fun h => by rw [h]⟩
  rw [jT_key5 w hw, jT_key5 w' hw'] at h
  have a1 := jT_rev (o := 96) (M := 32) hw (by decide) (by decide)
  have a2 := jT_rev (o := 96) (M := 32) hw' (by decide) (by decide)
  have b1 := jT_g_lt (M := 32) (by decide) a1
  have b2 := jT_g_lt (M := 32) (by decide) a2
  rw [List.length_reverse] at b1 b2
  have c1 : 32 ^ w.length ≤ 32 ^ 8 := Nat.pow_le_pow_right (by decide) hl
  have c2 : 32 ^ w'.length ≤ 32 ^ 8 := Nat.pow_le_pow_right (by decide) hl'
  have d : (32 : Nat) ^ 8 < 2 ^ 63 := by decide
  have := jT_g_inj (by decide) a1 a2 (jT_lN_inj (by omega) (by omega) h)
  exact List.reverse_inj.mp this
theorem jT_gt : ∀ {n : Nat} {w : List Nat}, w.length = n + 1 → (∀ c, c ∈ w → c ≤ 122) → jT_g 256 0 w < 123 * 256 ^ n
  | 0, [c], _, h => by
    have h1 := h c List.mem_cons_self
    show 0 * 256 + (c - 0) < 123 * 1
    omega
  | n + 1, c :: r, e, h => by
    have h1 := h c List.mem_cons_self
    have ih := jT_gt (n := n) (w := r) (by simpa using e) (fun x hx => h x (List.mem_cons_of_mem _ hx))
    rw [jT_g, Nat.pow_succ]
    generalize jT_g 256 0 r = G at *
    generalize 256 ^ n = P at *
    omega
theorem jT_g8 {w : List Nat} (hw : jT_letters w) (hl : w.length ≤ 8) : jT_g 256 0 w.reverse < 2 ^ 63 := by
  rcases Nat.eq_zero_or_pos w.length with e | e
  · rw [List.length_eq_zero_iff.mp e]
    exact (by decide : 0 < 2 ^ 63)
  · have h := jT_gt (n := w.length - 1) (w := w.reverse) (by rw [List.length_reverse]; omega) (fun c hc => (hw c (List.mem_reverse.mp hc)).2)
    have hp : 256 ^ (w.length - 1) ≤ 256 ^ 7 := Nat.pow_le_pow_right (by decide) (by omega)
    have h2 : 123 * 256 ^ 7 < 2 ^ 63 := by decide
    exact Nat.lt_of_lt_of_le h (Nat.le_trans (Nat.mul_le_mul_left _ hp) (Nat.le_of_lt h2))
theorem jT_8 {w w' : List Nat} (hw : jT_letters w) (hw' : jT_letters w') (hl : w.length ≤ 8) (hl' : w'.length ≤ 8) : jT_key w = jT_key w' ↔ w = w' := by
  refine ⟨fun h => ?_, fun h => by rw [h]⟩
  rw [jT_key8 w hw hl, jT_key8 w' hw' hl'] at h
  exact List.reverse_inj.mp (jT_g_inj (by decide) (jT_rev (o := 0) (M := 256) hw (by decide) (by decide)) (jT_rev (o := 0) (M := 256) hw' (by decide) (by decide)) (jT_lN_inj (jT_g8 hw hl) (jT_g8 hw' hl') h))
theorem jT_words : ∀ i, i < 29 → jT_letters (jy_words.getD i []) ∧ (jy_words.getD i []).length ≤ 8 := by
  have : ∀ i, i < 29 → ((jy_words.getD i []).all jT_l && Nat.ble (jy_words.getD i []).length 8) = true := by decide
  intro i hi
  have := this i hi
  rw [Bool.and_eq_true, List.all_eq_true] at this
  exact ⟨fun c hc => jT_l_iff.mp (this.1 c hc), Nat.le_of_ble_eq_true this.2⟩
/-! tokens -/
def jT_a (B : Nat → Int32) (sz e : Nat) : Nat := jT_run (fun i => jT_b (jT_c B sz i)) (sz - e) e
def jT_f (B : Nat → Int32) (sz a : Nat) : Nat :=
  if sz ≤ a then a else if jT_l (jT_c B sz a) = true then jT_run (fun i => jT_l (jT_c B sz i)) (sz - a) a else if jT_d (jT_c B sz a) = true then jT_run (fun i => jT_d (jT_c B sz i)) (sz - a) a else a + 1
def jT_wd (B : Nat → Int32) (sz a : Nat) : List Nat := jT_w (jT_c B sz) (jT_f B sz a - a) a
def jT_ix (w : List Nat) : Nat := jy_words.findIdx (fun x => x == w)
def jT_k (B : Nat → Int32) (sz a : Nat) : Nat :=
  if sz ≤ a then 0
  else if jT_l (jT_c B sz a) = true then (if 8 < jT_f B sz a - a then 1 else if jT_ix (jT_wd B sz a) < 29 then 100 + jT_ix (jT_wd B sz a) else 3)
  else if jT_d (jT_c B sz a) = true then (if 4 < jT_f B sz a - a ∨ jT_l (jT_c B sz (jT_f B sz a)) = true then 1 else 2)
  else if jT_sg (jT_c B sz a) = true then jT_c B sz a else 1
def jT_n (c : Nat → Nat) : Nat → Nat → Nat → Nat
  | 0, _, v => v
  | n + 1, i, v => jT_n c n (i + 1) (v * 10 + (c i - 48))
def jT_v (B : Nat → Int32) (sz a : Nat) : Nat := jT_n (jT_c B sz) (jT_f B sz a - a) a 0
theorem jT_c_lt (B : Nat → Int32) (sz i : Nat) : jT_c B sz i < 256 := by
  unfold jT_c
  split
  · obtain ⟨n, h1, h2⟩ := jT_255 (B i)
    rw [h2]
    have : (nI n).toNatClampNeg = n := by
      unfold nI
      exact Int32.toNatClampNeg_ofNat_of_lt (by omega)
    omega
  · decide
theorem jT_c_eq {B : Nat → Int32} {sz i : Nat} (h : i < sz) : B i &&& 255 = nI (jT_c B sz i) := by
  unfold jT_c
  rw [if_pos h]
  obtain ⟨n, h1, h2⟩ := jT_255 (B i)
  rw [h2]
  have : (nI n).toNatClampNeg = n := by
    unfold nI
    exact Int32.toNatClampNeg_ofNat_of_lt (by omega)
  rw [this]
theorem jT_c_0 {B : Nat → Int32} {sz i : Nat} (h : sz ≤ i) : jT_c B sz i = 0 := by
  unfold jT_c
  rw [if_neg (by omega)]
theorem jT_a_b {B : Nat → Int32} {sz e : Nat} (h : e ≤ sz) : e ≤ jT_a B sz e ∧ jT_a B sz e ≤ sz := by
  have := jT_run_b (p := fun i => jT_b (jT_c B sz i)) (sz - e) e
  unfold jT_a
  omega
theorem jT_a_nb {B : Nat → Int32} {sz e : Nat} (h : jT_a B sz e < sz) (he : e ≤ sz) : jT_b (jT_c B sz (jT_a B sz e)) = false := by
  have := jT_run_stop (p := fun i => jT_b (jT_c B sz i)) (sz - e) e
  unfold jT_a at h ⊢
  exact this (by omega)
theorem jT_f_b {B : Nat → Int32} {sz a : Nat} (h : a < sz) : a + 1 ≤ jT_f B sz a ∧ jT_f B sz a ≤ sz := by
  unfold jT_f
  rw [if_neg (by omega)]
  split
  · rename_i e
    rw [jT_run_s h, if_pos e]
    have := jT_run_b (p := fun i => jT_l (jT_c B sz i)) (sz - (a + 1)) (a + 1)
    omega
  · split
    · rename_i e
      rw [jT_run_s h, if_pos e]
      have := jT_run_b (p := fun i => jT_d (jT_c B sz i)) (sz - (a + 1)) (a + 1)
      omega
    · omega
theorem jT_wd_l {B : Nat → Int32} {sz a : Nat} (h : a < sz) (hl : jT_l (jT_c B sz a) = true) : jT_letters (jT_wd B sz a) ∧ (jT_wd B sz a).length = jT_f B sz a - a := by
  refine ⟨fun c hc => ?_, jT_w_len _ _⟩
  obtain ⟨j, h1, h2, h3⟩ := jT_w_in _ _ _ hc
  rw [h3]
  refine jT_l_iff.mp ?_
  have hf : jT_f B sz a = jT_run (fun i => jT_l (jT_c B sz i)) (sz - a) a := by
    unfold jT_f
    rw [if_neg (by omega), if_pos hl]
  exact jT_run_in (p := fun i => jT_l (jT_c B sz i)) (sz - a) a j h1 (by rw [← hf]; omega)
theorem jT_ix_lt {w : List Nat} : jT_ix w ≤ 29 := List.findIdx_le_length
theorem jT_ix_eq {w : List Nat} {i : Nat} (hi : i < 29) : jT_ix w = i ↔ w = jy_words.getD i [] := by
  have hd : ∀ j, j < 29 → jT_ix (jy_words.getD j []) = j := by decide
  constructor
  · intro h
    have hlt : jy_words.findIdx (fun x => x == w) < jy_words.length := by
      show jT_ix w < 29
      omega
    have := List.findIdx_getElem (w := hlt)
    have h2 : jy_words[jT_ix w]'hlt = w := beq_iff_eq.mp this
    rw [List.getD_eq_getElem?_getD]
    rw [List.getElem?_eq_getElem (show i < jy_words.length from hi)]
    rw [← h2]
    simp [h]
  · intro h
    rw [h]
    exact hd i hi
/-- the class's key finds the word -/
theorem jT_ix_key {w : List Nat} (hw : jT_letters w) (hl : w.length ≤ 8) {i : Nat} (hi : i < 29) : jy_key (jy_words.getD i []) = jy_key w ↔ jT_ix w = i := by
  obtain ⟨h1, h2⟩ := jT_words i hi
  rw [jT_5 h1 hw h2 hl, jT_ix_eq hi]
  exact ⟨fun h => h.symm, fun h => h.symm⟩
theorem jT_ix_key8 {w : List Nat} (hw : jT_letters w) (hl : w.length ≤ 8) {i : Nat} (hi : i < 29) : jT_key w = jT_key (jy_words.getD i []) ↔ jT_ix w = i := by
  obtain ⟨h1, h2⟩ := jT_words i hi
  rw [jT_8 hw h1 hl h2, jT_ix_eq hi]
