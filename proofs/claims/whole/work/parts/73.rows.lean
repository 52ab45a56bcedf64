def jl_la (g : Nat → Bool) : Nat → Nat → Nat
  | 0, x => x - 1
  | n + 1, x => if g x = true then jl_la g n (x + 1) else x - 1
theorem jl_la_b {g : Nat → Bool} : ∀ n x, 1 ≤ x → x - 1 ≤ jl_la g n x ∧ jl_la g n x ≤ x - 1 + n
  | 0, x, _ => ⟨Nat.le_refl _, Nat.le_refl _⟩
  | n + 1, x, h => by
    rw [jl_la]
    split
    · have := jl_la_b (g := g) n (x + 1) (by omega)
      omega
    · omega
theorem jl_la_iff {g : Nat → Bool} : ∀ n x l, 1 ≤ x → x - 1 ≤ l → l ≤ x - 1 + n → (l ≤ jl_la g n x ↔ ∀ y, x ≤ y → y ≤ l → g y = true)
  | 0, x, l, h, h1, h2 => by
    rw [jl_la]
    exact ⟨fun h3 y h4 h5 => by omega, fun _ => by omega⟩
  | n + 1, x, l, h, h1, h2 => by
    rw [jl_la]
    have hb := jl_la_b (g := g) n (x + 1) (by omega)
    rcases Nat.lt_or_ge l x with e | e
    · refine ⟨fun _ y h4 h5 => by omega, fun _ => ?_⟩
      split <;> omega
    · by_cases c : g x = true
      · rw [if_pos c, jl_la_iff n (x + 1) l (by omega) (by omega) (by omega)]
        refine ⟨fun h3 y h4 h5 => ?_, fun h3 y h4 h5 => h3 y (by omega) h5⟩
        by_cases e2 : y = x
        · rw [e2]; exact c
        · exact h3 y (by omega) h5
      · rw [if_neg c]
        exact ⟨fun h3 => by omega, fun h3 => absurd (h3 x (Nat.le_refl _) e) c⟩
def jl_sum (F : Nat → Nat) : Nat → Nat → Nat
  | 0, _ => 0
  | n + 1, l => F l + jl_sum F n (l + 1)
def jl_U (F : Nat → Nat) : Nat → Nat
  | 0 => 0
  | n + 1 => jl_U F n + F n
theorem jl_U_h (F : Nat → Nat) : ∀ n, jl_U F (n + 1) = F 0 + jl_U (fun d => F (d + 1)) n
  | 0 => by simp [jl_U]
  | n + 1 => by
    rw [jl_U, jl_U_h F n, jl_U]
    omega
theorem jl_sum_U (F : Nat → Nat) : ∀ n l, jl_sum F n l = jl_U (fun d => F (l + d)) n
  | 0, _ => rfl
  | n + 1, l => by
    rw [jl_sum, jl_sum_U F n (l + 1), jl_U_h]
    have : (fun d => F (l + 1 + d)) = (fun d => F (l + (d + 1))) := funext fun d => congrArg F (by omega)
    rw [this]
    rfl
theorem jl_U_congr {F G : Nat → Nat} : ∀ n, (∀ d, d < n → F d = G d) → jl_U F n = jl_U G n
  | 0, _ => rfl
  | n + 1, h => by
    rw [jl_U, jl_U, jl_U_congr n (fun d hd => h d (by omega)), h n (by omega)]
theorem jl_U_add (F G : Nat → Nat) : ∀ n, jl_U (fun d => F d + G d) n = jl_U F n + jl_U G n
  | 0 => rfl
  | n + 1 => by
    rw [jl_U, jl_U, jl_U, jl_U_add F G n]
    omega
theorem jl_U_zero : ∀ n, jl_U (fun _ => 0) n = 0
  | 0 => rfl
  | n + 1 => by rw [jl_U, jl_U_zero n]
theorem jl_U_cut (H : Nat → Nat) (k : Nat) : ∀ n, k ≤ n → jl_U (fun d => if d < k then H d else 0) n = jl_U H k
  | 0, h => by
    obtain rfl : k = 0 := by omega
    rfl
  | n + 1, h => by
    rw [jl_U]
    rcases Nat.lt_or_ge n k with e | e
    · obtain rfl : k = n + 1 := by omega
      rw [if_pos e, jl_U]
      rw [jl_U_congr n (G := H) (fun d hd => if_pos (by omega))]
    · rw [if_neg (by omega), jl_U_cut H k n e]
      rfl
def jl_cnt (P : Nat → Bool) : Nat → Nat
  | 0 => 0
  | n + 1 => jl_cnt P n + (if P n = true then 1 else 0)
theorem jl_cnt_le (P : Nat → Bool) : ∀ n, jl_cnt P n ≤ n
  | 0 => Nat.le_refl _
  | n + 1 => by
    have := jl_cnt_le P n
    rw [jl_cnt]
    split <;> omega
theorem jl_cnt_congr {P P' : Nat → Bool} : ∀ n, (∀ d, d < n → P d = P' d) → jl_cnt P n = jl_cnt P' n
  | 0, _ => rfl
  | n + 1, h => by
    rw [jl_cnt, jl_cnt, jl_cnt_congr n (fun d hd => h d (by omega)), h n (by omega)]
theorem jl_cnt_pos {P : Nat → Bool} : ∀ n, 0 < jl_cnt P n ↔ ∃ v, v < n ∧ P v = true
  | 0 => by
    refine ⟨fun h => absurd h (Nat.lt_irrefl 0), ?_⟩
    rintro ⟨v, h, -⟩
    omega
  | n + 1 => by
    rw [jl_cnt]
    have ih := jl_cnt_pos (P := P) n
    by_cases c : P n = true
    · rw [if_pos c]
      exact ⟨fun _ => ⟨n, by omega, c⟩, fun _ => by omega⟩
    · rw [if_neg c, Nat.add_zero, ih]
      constructor
      · rintro ⟨v, h1, h2⟩; exact ⟨v, by omega, h2⟩
      · rintro ⟨v, h1, h2⟩
        refine ⟨v, ?_, h2⟩
        rcases Nat.lt_or_ge v n with e | e
        · exact e
        · obtain rfl : v = n := by omega
          exact absurd h2 c
theorem jl_cnt_add (P : Nat → Bool) (a : Nat) : ∀ n, jl_cnt P (a + n) = jl_cnt P a + jl_U (fun d => if P (a + d) = true then 1 else 0) n
  | 0 => rfl
  | n + 1 => by
    show jl_cnt P (a + n + 1) = _
    rw [jl_cnt, jl_cnt_add P a n, jl_U]
    omega
theorem jl_cnt_mul (P : Nat → Bool) (W : Nat) : ∀ N, jl_cnt P (W * N) = jl_U (fun d => jl_cnt (fun u => P (d + W * u)) N) W
  | 0 => by
    show jl_cnt P 0 = jl_U (fun _ => 0) W
    rw [jl_U_zero]
    rfl
  | N + 1 => by
    rw [Nat.mul_succ, jl_cnt_add, jl_cnt_mul P W N, ← jl_U_add]
    refine jl_U_congr W (fun d _ => ?_)
    rw [jl_cnt, Nat.add_comm (W * N) d]
/-! rows from month i on, the days before them: s -/
def jl_c (f : Nat → Nat) (LA : Nat → Nat → Nat) (lst : Nat) : Nat → Nat → Nat → Nat
  | 0, _, s => if lst ≤ s then 1 else 0
  | r + 1, i, s => jl_sum (fun l => jl_c f LA lst r (i + 1) (s + l)) (LA i s + 1 - f i) (f i)
def jl_N (W : Nat → Nat) : Nat → Nat → Nat
  | 0, _ => 1
  | r + 1, i => W i * jl_N W r (i + 1)
def jl_G (f W : Nat → Nat) (LA : Nat → Nat → Nat) (lst : Nat) : Nat → Nat → Nat → Nat → Bool
  | 0, _, s, _ => decide (lst ≤ s)
  | r + 1, i, s, v => decide (f i + v % W i ≤ LA i s) && jl_G f W LA lst r (i + 1) (s + (f i + v % W i)) (v / W i)
theorem jl_main {f W : Nat → Nat} {LA : Nat → Nat → Nat} {lst : Nat} (hW : ∀ i s, LA i s < f i + W i) : ∀ r i s, jl_cnt (jl_G f W LA lst r i s) (jl_N W r i) = jl_c f LA lst r i s
  | 0, i, s => by
    show (0 + if decide (lst ≤ s) = true then 1 else 0) = if lst ≤ s then 1 else 0
    simp
  | r + 1, i, s => by
    rw [jl_N, jl_cnt_mul, jl_c, jl_sum_U, ← jl_U_cut (fun d => jl_c f LA lst r (i + 1) (s + (f i + d))) (LA i s + 1 - f i) (W i) (by have := hW i s; omega)]
    refine jl_U_congr _ (fun d hd => ?_)
    have e : ∀ u, jl_G f W LA lst (r + 1) i s (d + W i * u) = (decide (f i + d ≤ LA i s) && jl_G f W LA lst r (i + 1) (s + (f i + d)) u) := fun u => by
      rw [jl_G, Nat.add_mul_mod_self_left, Nat.mod_eq_of_lt hd, Nat.add_mul_div_left _ _ (by omega), Nat.div_eq_of_lt hd, Nat.zero_add]
    rw [jl_cnt_congr _ (fun u _ => e u)]
    by_cases c : f i + d ≤ LA i s
    · rw [if_pos (by omega), ← jl_main hW r (i + 1)]
      exact jl_cnt_congr _ (fun u _ => by rw [decide_eq_true c, Bool.true_and])
    · rw [if_neg (by omega)]
      rw [jl_cnt_congr _ (P' := fun _ => false) (fun u _ => by rw [decide_eq_false c, Bool.false_and])]
      exact Nat.eq_zero_of_not_pos (fun z => by
        obtain ⟨v, -, h⟩ := (jl_cnt_pos _).mp z
        cases h)
def jl_P (W : Nat → Nat) : Nat → Nat
  | 0 => 1
  | i + 1 => jl_P W i * W i
theorem jl_PN (W : Nat → Nat) : ∀ r i, jl_P W i * jl_N W r i = jl_P W (i + r)
  | 0, i => Nat.mul_one _
  | r + 1, i => by
    rw [jl_N, ← Nat.mul_assoc]
    have := jl_PN W r (i + 1)
    rw [jl_P] at this
    rw [this]
    exact congrArg (jl_P W) (by omega)
theorem jl_P_pos {W : Nat → Nat} (hW : ∀ i, 0 < W i) : ∀ i, 0 < jl_P W i
  | 0 => Nat.one_pos
  | i + 1 => Nat.mul_pos (jl_P_pos hW i) (hW i)
def jl_D (f W : Nat → Nat) (v i : Nat) : Nat := f i + v / jl_P W i % W i
theorem jl_div (W : Nat → Nat) (v i : Nat) : v / jl_P W i / W i = v / jl_P W (i + 1) := Nat.div_div_eq_div_mul _ _ _
/-! paths -/
def jl_rch (f : Nat → Nat) (LA : Nat → Nat → Nat) : Nat → Nat → Prop
  | 0, s => s = 0
  | i + 1, s' => ∃ s l, jl_rch f LA i s ∧ f i ≤ l ∧ l ≤ LA i s ∧ s' = s + l
theorem jl_fwd {f W : Nat → Nat} {LA : Nat → Nat → Nat} {lst m v : Nat} (hG : jl_G f W LA lst m 0 0 v = true) : ∀ i, i ≤ m → ∃ s, jl_rch f LA i s ∧ jl_G f W LA lst (m - i) i s (v / jl_P W i) = true
  | 0, _ => ⟨0, rfl, by rw [jl_P, Nat.div_one]; exact hG⟩
  | i + 1, h => by
    obtain ⟨s, h1, h2⟩ := jl_fwd hG i (by omega)
    rw [show m - i = m - (i + 1) + 1 by omega, jl_G, Bool.and_eq_true, decide_eq_true_eq, jl_div] at h2
    exact ⟨_, ⟨s, _, h1, Nat.le_add_right _ _, h2.1, rfl⟩, h2.2⟩
theorem jl_bwd {f W : Nat → Nat} {LA : Nat → Nat → Nat} {lst m : Nat} (hW0 : ∀ i, 0 < W i) (hW : ∀ i s, LA i s < f i + W i) : ∀ i, i ≤ m → ∀ s u, jl_rch f LA i s → u < jl_N W (m - i) i → jl_G f W LA lst (m - i) i s u = true → ∃ v, v < jl_N W m 0 ∧ jl_G f W LA lst m 0 0 v = true ∧ v / jl_P W i = u
  | 0, _, s, u, hr, hu, hG => by
    obtain rfl : s = 0 := hr
    exact ⟨u, hu, hG, by rw [jl_P, Nat.div_one]⟩
  | i + 1, h, s', u, hr, hu, hG => by
    obtain ⟨s, l, h1, h2, h3, rfl⟩ := hr
    have hl := hW i s
    have hd : (l - f i + W i * u) % W i = l - f i := by rw [Nat.add_mul_mod_self_left, Nat.mod_eq_of_lt (by omega)]
    have hq : (l - f i + W i * u) / W i = u := by rw [Nat.add_mul_div_left _ _ (hW0 i), Nat.div_eq_of_lt (by omega), Nat.zero_add]
    obtain ⟨v, g1, g2, g3⟩ := jl_bwd (lst := lst) (m := m) hW0 hW i (by omega) s (l - f i + W i * u) h1 (by
      rw [show m - i = m - (i + 1) + 1 by omega, jl_N]
      have : W i * (u + 1) ≤ W i * jl_N W (m - (i + 1)) (i + 1) := Nat.mul_le_mul_left _ hu
      rw [Nat.mul_succ] at this
      omega) (by
      rw [show m - i = m - (i + 1) + 1 by omega, jl_G, Bool.and_eq_true, decide_eq_true_eq, hd, hq, show f i + (l - f i) = l by omega]
      exact ⟨h3, hG⟩)
    exact ⟨v, g1, g2, by rw [← jl_div, g3, hq]⟩
theorem jl_set {f W : Nat → Nat} {LA : Nat → Nat → Nat} {lst m i l : Nat} (hW0 : ∀ i, 0 < W i) (hW : ∀ i s, LA i s < f i + W i) (hi : i < m) :
    (∃ v, v < jl_N W m 0 ∧ jl_G f W LA lst m 0 0 v = true ∧ jl_D f W v i = l) ↔ ∃ s, jl_rch f LA i s ∧ f i ≤ l ∧ l ≤ LA i s ∧ 0 < jl_c f LA lst (m - (i + 1)) (i + 1) (s + l) := by
  constructor
  · rintro ⟨v, h1, h2, rfl⟩
    obtain ⟨s, g1, g2⟩ := jl_fwd h2 i (by omega)
    rw [show m - i = m - (i + 1) + 1 by omega, jl_G, Bool.and_eq_true, decide_eq_true_eq, jl_div] at g2
    refine ⟨s, g1, Nat.le_add_right _ _, g2.1, ?_⟩
    rw [← jl_main hW, jl_cnt_pos]
    refine ⟨_, ?_, g2.2⟩
    have e := jl_PN W (m - (i + 1)) (i + 1)
    have e2 := jl_PN W m 0
    rw [show i + 1 + (m - (i + 1)) = 0 + m by omega, ← e2] at e
    rw [Nat.div_lt_iff_lt_mul (jl_P_pos hW0 _), Nat.mul_comm, e, jl_P, Nat.one_mul]
    exact h1
  · rintro ⟨s, h1, h2, h3, h4⟩
    rw [← jl_main hW, jl_cnt_pos] at h4
    obtain ⟨u, g1, g2⟩ := h4
    have hl := hW i s
    have hd : (l - f i + W i * u) % W i = l - f i := by rw [Nat.add_mul_mod_self_left, Nat.mod_eq_of_lt (by omega)]
    have hq : (l - f i + W i * u) / W i = u := by rw [Nat.add_mul_div_left _ _ (hW0 i), Nat.div_eq_of_lt (by omega), Nat.zero_add]
    obtain ⟨v, k1, k2, k3⟩ := jl_bwd (lst := lst) (m := m) hW0 hW i (by omega) s (l - f i + W i * u) h1 (by
      rw [show m - i = m - (i + 1) + 1 by omega, jl_N]
      have : W i * (u + 1) ≤ W i * jl_N W (m - (i + 1)) (i + 1) := Nat.mul_le_mul_left _ g1
      rw [Nat.mul_succ] at this
      omega) (by
      rw [show m - i = m - (i + 1) + 1 by omega, jl_G, Bool.and_eq_true, decide_eq_true_eq, hd, hq, show f i + (l - f i) = l by omega]
      exact ⟨h3, g2⟩)
    refine ⟨v, k1, k2, ?_⟩
    unfold jl_D
    rw [k3, hd]
    omega
/-! what is told of the days -/
def jl_so (R : Nat → Nat) (nm mo e : Nat) : Nat → Nat → Nat → Bool
  | 0, _, _ => false
  | n + 1, i, left => if left < R i then decide (i % nm = mo ∧ left + 1 = e) else jl_so R nm mo e n (i + 1) (left - R i)
def jl_nd (q st : Nat → Nat) (cn : Nat → Bool) : Nat → Nat → Int32
  | 0 => fun _ => -1
  | n + 1 => if cn n = true then upd (jl_nd q st cn n) (q n) (if jl_nd q st cn n (q n) = -1 ∨ jl_nd q st cn n (q n) = nI (st n) then nI (st n) else -2) else jl_nd q st cn n
theorem jl_m1 {w : Nat} (h : w < 2 ^ 31) : ¬ nI w = -1 := fun z => nI_pos h (by rw [z]; decide)
theorem jl_m2 {w : Nat} (h : w < 2 ^ 31) : ¬ nI w = -2 := fun z => nI_pos h (by rw [z]; decide)
def jl_in (q st : Nat → Nat) (cn : Nat → Bool) (n d : Nat) : Prop :=
  (jl_nd q st cn n d = -1 ∧ ∀ j, j < n → cn j = true → q j ≠ d) ∨ (∃ w, jl_nd q st cn n d = nI w ∧ w < 2 ^ 31 ∧ (∃ j, j < n ∧ cn j = true ∧ q j = d ∧ st j = w) ∧ ∀ j, j < n → cn j = true → q j = d → st j = w) ∨
  (jl_nd q st cn n d = -2 ∧ ∃ j j', j < n ∧ j' < n ∧ cn j = true ∧ cn j' = true ∧ q j = d ∧ q j' = d ∧ st j ≠ st j')
theorem jl_inv {q st : Nat → Nat} {cn : Nat → Bool} {d : Nat} : ∀ n, (∀ j, j < n → st j < 2 ^ 31) → jl_in q st cn n d
  | 0, _ => Or.inl ⟨rfl, fun j hj => absurd hj (Nat.not_lt_zero _)⟩
  | n + 1, hst => by
    have ih := jl_inv (q := q) (cn := cn) (d := d) n (fun j hj => hst j (by omega))
    have hn := hst n (by omega)
    by_cases c : cn n = true
    · by_cases e : q n = d
      · have e1 : jl_nd q st cn (n + 1) d = if jl_nd q st cn n d = -1 ∨ jl_nd q st cn n d = nI (st n) then nI (st n) else -2 := by
          rw [jl_nd, if_pos c, e, jg_us]
        rcases ih with ⟨h1, h2⟩ | ⟨w, h1, h2, ⟨j, g1, g2, g3, g4⟩, h3⟩ | ⟨h1, j, j', g1, g2, g3, g4, g5, g6, g7⟩
        · rw [if_pos (Or.inl h1)] at e1
          refine Or.inr (Or.inl ⟨st n, e1, hn, ⟨n, by omega, c, e, rfl⟩, fun j hj hc hq => ?_⟩)
          by_cases z : j = n
          · rw [z]
          · exact absurd hq (h2 j (by omega) hc)
        · by_cases z : w = st n
          · rw [if_pos (Or.inr (by rw [h1, z]))] at e1
            refine Or.inr (Or.inl ⟨st n, e1, hn, ⟨n, by omega, c, e, rfl⟩, fun j hj hc hq => ?_⟩)
            by_cases z2 : j = n
            · rw [z2]
            · rw [h3 j (by omega) hc hq, z]
          · rw [if_neg (by
              rintro (y | y)
              · rw [h1] at y; exact jl_m1 h2 y
              · rw [h1] at y; exact z (jn_eq y h2 hn))] at e1
            exact Or.inr (Or.inr ⟨e1, j, n, by omega, by omega, g2, c, g3, e, by omega⟩)
        · rw [if_neg (by
              rintro (y | y)
              · rw [h1] at y; exact absurd y (by decide)
              · rw [h1] at y; exact jl_m2 hn y.symm)] at e1
          exact Or.inr (Or.inr ⟨e1, j, j', by omega, by omega, g3, g4, g5, g6, g7⟩)
      · have e1 : jl_nd q st cn (n + 1) d = jl_nd q st cn n d := by
          rw [jl_nd, if_pos c, jg_un (fun z => e z.symm)]
        rcases ih with ⟨h1, h2⟩ | ⟨w, h1, h2, ⟨j, g1, g2, g3, g4⟩, h3⟩ | ⟨h1, j, j', g1, g2, g3, g4, g5, g6, g7⟩
        · refine Or.inl ⟨e1.trans h1, fun j hj hc => ?_⟩
          by_cases z : j = n
          · rw [z]; exact e
          · exact h2 j (by omega) hc
        · refine Or.inr (Or.inl ⟨w, e1.trans h1, h2, ⟨j, by omega, g2, g3, g4⟩, fun j hj hc hq => ?_⟩)
          by_cases z : j = n
          · rw [z] at hq; exact absurd hq e
          · exact h3 j (by omega) hc hq
        · exact Or.inr (Or.inr ⟨e1.trans h1, j, j', by omega, by omega, g3, g4, g5, g6, g7⟩)
    · have e1 : jl_nd q st cn (n + 1) d = jl_nd q st cn n d := by rw [jl_nd, if_neg c]
      have hx : ∀ j, j < n + 1 → cn j = true → j < n := fun j hj hc => by
        rcases Nat.lt_or_ge j n with z | z
        · exact z
        · obtain rfl : j = n := by omega
          exact absurd hc c
      rcases ih with ⟨h1, h2⟩ | ⟨w, h1, h2, ⟨j, g1, g2, g3, g4⟩, h3⟩ | ⟨h1, j, j', g1, g2, g3, g4, g5, g6, g7⟩
      · exact Or.inl ⟨e1.trans h1, fun j hj hc => h2 j (hx j hj hc) hc⟩
      · exact Or.inr (Or.inl ⟨w, e1.trans h1, h2, ⟨j, by omega, g2, g3, g4⟩, fun j hj hc hq => h3 j (hx j hj hc) hc hq⟩)
      · exact Or.inr (Or.inr ⟨e1.trans h1, j, j', by omega, by omega, g3, g4, g5, g6, g7⟩)
theorem jl_ag {q st : Nat → Nat} {cn : Nat → Bool} {n d w : Nat} (hst : ∀ j, j < n → st j < 2 ^ 31) (hw : w < 2 ^ 31) : (jl_nd q st cn n d = -1 ∨ jl_nd q st cn n d = nI w) ↔ ∀ j, j < n → cn j = true → q j = d → st j = w := by
  rcases jl_inv (q := q) (cn := cn) (d := d) n hst with ⟨h1, h2⟩ | ⟨w', h1, h2, ⟨j, g1, g2, g3, g4⟩, h3⟩ | ⟨h1, j, j', g1, g2, g3, g4, g5, g6, g7⟩
  · exact ⟨fun _ j hj hc hq => absurd hq (h2 j hj hc), fun _ => Or.inl h1⟩
  · constructor
    · rintro (y | y)
      · rw [h1] at y; exact absurd y (jl_m1 h2)
      · rw [h1] at y
        have := jn_eq y h2 hw
        intro j hj hc hq
        rw [h3 j hj hc hq, this]
    · intro h
      right
      rw [h1, ← g4, h j g1 g2 g3]
  · constructor
    · rintro (y | y)
      · rw [h1] at y; exact absurd y (by decide)
      · rw [h1] at y; exact absurd y.symm (jl_m2 hw)
    · intro h
      exact absurd ((h j g1 g3 g5).trans (h j' g2 g4 g6).symm) g7
def jl_lst (q : Nat → Nat) (cn : Nat → Bool) : Nat → Nat
  | 0 => 0
  | n + 1 => if cn n = true then max (jl_lst q cn n) (q n + 1) else jl_lst q cn n
theorem jl_lst_le {q : Nat → Nat} {cn : Nat → Bool} {s : Nat} : ∀ n, jl_lst q cn n ≤ s ↔ ∀ j, j < n → cn j = true → q j < s
  | 0 => ⟨fun _ j hj => absurd hj (Nat.not_lt_zero _), fun _ => Nat.zero_le _⟩
  | n + 1 => by
    have ih := jl_lst_le (q := q) (cn := cn) (s := s) n
    rw [jl_lst]
    by_cases c : cn n = true
    · rw [if_pos c]
      constructor
      · intro h j hj hc
        by_cases z : j = n
        · rw [z]; omega
        · exact (ih.mp (by omega)) j (by omega) hc
      · intro h
        have h1 := ih.mpr (fun j hj hc => h j (by omega) hc)
        have h2 := h n (by omega) c
        omega
    · rw [if_neg c, ih]
      constructor
      · intro h j hj hc
        by_cases z : j = n
        · rw [z] at hc; exact absurd hc c
        · exact h j (by omega) hc
      · intro h j hj hc
        exact h j (by omega) hc
/-- the longest length that agrees -/
def jl_LA (N : Nat → Int32) (nm : Nat) (t : Nat → Nat) (i s : Nat) : Nat := jl_la (fun x => decide (N (s + x - 1) = -1 ∨ N (s + x - 1) = nI (i % nm * 32 + x))) (t i) 1
theorem jl_eq {f t q mo e : Nat → Nat} {cn : Nat → Bool} {nm n v : Nat} {W : Nat → Nat} (hnm : 0 < nm) (hnm6 : nm ≤ 6) (hW : ∀ i, f i + W i = t i + 1) (hW0 : ∀ i, 0 < W i) (ht : ∀ i, t i ≤ 31) (he : ∀ j, j < n → 1 ≤ e j ∧ e j ≤ 31 ∧ mo j < nm) :
    ∀ r i s, jl_G f W (jl_LA (jl_nd q (fun j => mo j * 32 + e j) cn n) nm t) (jl_lst q cn n) r i s (v / jl_P W i) = true ↔ ∀ j, j < n → cn j = true → s ≤ q j → jl_so (jl_D f W v) nm (mo j) (e j) r i (q j - s) = true
  | 0, i, s => by
    rw [jl_G, decide_eq_true_eq, jl_lst_le]
    refine ⟨fun h j hj hc hs => ?_, fun h j hj hc => ?_⟩
    · have := h j hj hc
      omega
    · rcases Nat.lt_or_ge (q j) s with z | z
      · exact z
      · have := h j hj hc z
        cases this
  | r + 1, i, s => by
    have ih := jl_eq (q := q) (cn := cn) (v := v) hnm hnm6 hW hW0 ht he r (i + 1) (s + jl_D f W v i)
    have hD : f i + v / jl_P W i % W i = jl_D f W v i := rfl
    have hD31 : jl_D f W v i ≤ t i := by
      have := Nat.mod_lt (v / jl_P W i) (hW0 i)
      have := hW i
      unfold jl_D
      omega
    have hi6 := Nat.mod_lt i hnm
    have ht' := ht i
    rw [jl_G, Bool.and_eq_true, decide_eq_true_eq, jl_div, hD, ih]
    unfold jl_LA
    rw [jl_la_iff _ 1 _ (Nat.le_refl _) (Nat.zero_le _) (by omega)]
    have key : ∀ x, 1 ≤ x → x ≤ jl_D f W v i → ((decide (jl_nd q (fun j => mo j * 32 + e j) cn n (s + x - 1) = -1 ∨ jl_nd q (fun j => mo j * 32 + e j) cn n (s + x - 1) = nI (i % nm * 32 + x)) = true) ↔ ∀ j, j < n → cn j = true → q j = s + x - 1 → mo j * 32 + e j = i % nm * 32 + x) := fun x _ _ => by
      rw [decide_eq_true_eq]
      exact jl_ag (fun j hj => by have := he j hj; show mo j * 32 + e j < 2 ^ 31; omega) (by omega)
    constructor
    · rintro ⟨h1, h2⟩ j hj hc hs
      have hej := he j hj
      rw [jl_so]
      by_cases z : q j - s < jl_D f W v i
      · rw [if_pos z, decide_eq_true_eq]
        have := (key (q j - s + 1) (by omega) (by omega)).mp (h1 _ (by omega) (by omega)) j hj hc (by omega)
        omega
      · rw [if_neg z, Nat.sub_sub]
        exact h2 j hj hc (by omega)
    · intro h
      refine ⟨fun x hx1 hx2 => (key x hx1 hx2).mpr (fun j hj hc hq => ?_), fun j hj hc hs => ?_⟩
      · have := h j hj hc (by omega)
        rw [jl_so, if_pos (by omega), decide_eq_true_eq] at this
        have e1 := this.1
        rw [e1]
        omega
      · have := h j hj hc (by omega)
        rw [jl_so, if_neg (by omega), Nat.sub_sub] at this
        exact this

