/-- two heaps hold the same bank -/
def jBk (b : Nat) (h h' : jx_H) : Prop := ∀ a q, 66 ≤ a → a ≤ 94 → jwd a * b ≤ q → q < jwd a * b + jwd a → jh_I h' a 0 q = jh_I h a 0 q
theorem jBk_at {b : Nat} {h h' : jx_H} (E : jBk b h h') {a w q : Nat} (hw : jwd a = w) (ha : 66 ≤ a ∧ a ≤ 94) (h1 : w * b ≤ q) (h2 : q < w * b + w) : jh_I h' a 0 q = jh_I h a 0 q := E a q ha.1 ha.2 (by rw [hw]; exact h1) (by rw [hw]; exact h2)
theorem jBk_c0 {b : Nat} {h h' : jx_H} (E : jBk b h h') {i : Nat} : jC h' b 0 i = jC h b 0 i := jBk_at E (a := 66) (w := 1) (q := b) (by decide) (by decide) (by omega) (by omega)
theorem jBk_c1 {b : Nat} {h h' : jx_H} (E : jBk b h h') {i : Nat} : jC h' b 1 i = jC h b 1 i := jBk_at E (a := 67) (w := 1) (q := b) (by decide) (by decide) (by omega) (by omega)
theorem jBk_c2 {b : Nat} {h h' : jx_H} (E : jBk b h h') {i : Nat} : jC h' b 2 i = jC h b 2 i := jBk_at E (a := 68) (w := 1) (q := b) (by decide) (by decide) (by omega) (by omega)
theorem jBk_c12 {b : Nat} {h h' : jx_H} (E : jBk b h h') {i : Nat} : jC h' b 12 i = jC h b 12 i := jBk_at E (a := 85) (w := 1) (q := b) (by decide) (by decide) (by omega) (by omega)
theorem jBk_c13 {b : Nat} {h h' : jx_H} (E : jBk b h h') {i : Nat} : jC h' b 13 i = jC h b 13 i := jBk_at E (a := 78) (w := 1) (q := b) (by decide) (by decide) (by omega) (by omega)
theorem jBk_c14 {b : Nat} {h h' : jx_H} (E : jBk b h h') {i : Nat} : jC h' b 14 i = jC h b 14 i := jBk_at E (a := 79) (w := 1) (q := b) (by decide) (by decide) (by omega) (by omega)
theorem jBk_c15 {b : Nat} {h h' : jx_H} (E : jBk b h h') {i : Nat} : jC h' b 15 i = jC h b 15 i := jBk_at E (a := 80) (w := 1) (q := b) (by decide) (by decide) (by omega) (by omega)
theorem jBk_c16 {b : Nat} {h h' : jx_H} (E : jBk b h h') {i : Nat} : jC h' b 16 i = jC h b 16 i := jBk_at E (a := 81) (w := 1) (q := b) (by decide) (by decide) (by omega) (by omega)
theorem jBk_c17 {b : Nat} {h h' : jx_H} (E : jBk b h h') {i : Nat} : jC h' b 17 i = jC h b 17 i := jBk_at E (a := 88) (w := 1) (q := b) (by decide) (by decide) (by omega) (by omega)
theorem jBk_c3 {b : Nat} {h h' : jx_H} (E : jBk b h h') {i : Nat} (hi : i < 6) : jC h' b 3 i = jC h b 3 i := jBk_at E (a := 70) (w := 6) (q := 6 * b + i) (by decide) (by decide) (by omega) (by omega)
theorem jBk_c4 {b : Nat} {h h' : jx_H} (E : jBk b h h') {i : Nat} (hi : i < 6) : jC h' b 4 i = jC h b 4 i := jBk_at E (a := 71) (w := 6) (q := 6 * b + i) (by decide) (by decide) (by omega) (by omega)
theorem jBk_c5 {b : Nat} {h h' : jx_H} (E : jBk b h h') {i : Nat} (hi : i < 5) : jC h' b 5 i = jC h b 5 i := jBk_at E (a := 72) (w := 5) (q := 5 * b + i) (by decide) (by decide) (by omega) (by omega)
theorem jBk_c6 {b : Nat} {h h' : jx_H} (E : jBk b h h') {i : Nat} (hi : i < 12) : jC h' b 6 i = jC h b 6 i := jBk_at E (a := 73) (w := 12) (q := 12 * b + i) (by decide) (by decide) (by omega) (by omega)
theorem jBk_c7 {b : Nat} {h h' : jx_H} (E : jBk b h h') {i : Nat} (hi : i < 12) : jC h' b 7 i = jC h b 7 i := jBk_at E (a := 74) (w := 12) (q := 12 * b + i) (by decide) (by decide) (by omega) (by omega)
theorem jBk_c8 {b : Nat} {h h' : jx_H} (E : jBk b h h') {i : Nat} (hi : i < 12) : jC h' b 8 i = jC h b 8 i := jBk_at E (a := 75) (w := 12) (q := 12 * b + i) (by decide) (by decide) (by omega) (by omega)
theorem jBk_c9 {b : Nat} {h h' : jx_H} (E : jBk b h h') {i : Nat} (hi : i < 12) : jC h' b 9 i = jC h b 9 i := jBk_at E (a := 76) (w := 12) (q := 12 * b + i) (by decide) (by decide) (by omega) (by omega)
theorem jBk_c10 {b : Nat} {h h' : jx_H} (E : jBk b h h') {i : Nat} (hi : i < 12) : jC h' b 10 i = jC h b 10 i := jBk_at E (a := 77) (w := 12) (q := 12 * b + i) (by decide) (by decide) (by omega) (by omega)
theorem jBk_c11 {b : Nat} {h h' : jx_H} (E : jBk b h h') {i : Nat} (hi : i < 12) : jC h' b 11 i = jC h b 11 i := jBk_at E (a := 84) (w := 12) (q := 12 * b + i) (by decide) (by decide) (by omega) (by omega)
theorem jBk_c18 {b : Nat} {h h' : jx_H} (E : jBk b h h') {i : Nat} (hi : i < 6) : jC h' b 18 i = jC h b 18 i := jBk_at E (a := 89) (w := 6) (q := 6 * b + i) (by decide) (by decide) (by omega) (by omega)
theorem jBk_nm {b : Nat} {h h' : jx_H} (E : jBk b h h') : jz_nm h' b = jz_nm h b := congrArg Int32.toNatClampNeg (jBk_c0 (i := 0) E)
theorem jBk_np {b : Nat} {h h' : jx_H} (E : jBk b h h') : jz_np h' b = jz_np h b := congrArg Int32.toNatClampNeg (jBk_c1 (i := 0) E)
theorem jBk_nd {b : Nat} {h h' : jx_H} (E : jBk b h h') : jz_nd h' b = jz_nd h b := congrArg Int32.toNatClampNeg (jBk_c2 (i := 0) E)
theorem jBk_month {b : Nat} {h h' : jx_H} (E : jBk b h h') (a : jw_A) : jw_month (jC h' b) a = jw_month (jC h b) a := by
  unfold jw_month
  rw [jBk_c0 E]
theorem jBk_sunU {b : Nat} {h h' : jx_H} (E : jBk b h h') : jw_sunU (jC h' b) = jw_sunU (jC h b) := by
  unfold jw_sunU
  rw [jBk_c12 E, jBk_c0 E, jBk_c13 E]
theorem jBk_sunL {b : Nat} {h h' : jx_H} (E : jBk b h h') : jw_sunL (jC h' b) = jw_sunL (jC h b) := by
  unfold jw_sunL
  rw [jBk_c12 E, jBk_c14 E]
theorem jBk_dL {b : Nat} {h h' : jx_H} (E : jBk b h h') : jw_dL (jC h' b) = jw_dL (jC h b) := by
  unfold jw_dL
  rw [jBk_sunL E, jBk_c0 E]
theorem jBk_dU {b : Nat} {h h' : jx_H} (E : jBk b h h') (x y : Int32) : jw_dU (jC h' b) x y = jw_dU (jC h b) x y := by
  unfold jw_dU
  rw [jBk_dL E, jBk_sunU E]
theorem jBk_paid {b : Nat} {h h' : jx_H} (E : jBk b h h') {d : Nat} (hd : d < 12) (l : Int32) : jw_paid (jC h' b) d l = jw_paid (jC h b) d l := by
  unfold jw_paid
  rw [jBk_c9 E hd, jBk_c11 E hd]
theorem jBk_goes {b : Nat} {h h' : jx_H} (E : jBk b h h') {d : Nat} (hd : d < 12) (a : jw_A) (l : Int32) : jw_goes (jC h' b) a d l ↔ jw_goes (jC h b) a d l := by
  show (jC h' b 10 d = jw_month (jC h' b) a ∧ _ ∧ jw_paid (jC h' b) d l ≠ 0) ↔ _
  rw [jBk_c10 E hd, jBk_month E, jBk_paid E hd]
theorem jBk_part {b : Nat} {h h' : jx_H} (E : jBk b h h') {c : Nat} (hc : c = 6 ∨ c = 7) (a : jw_A) (p l : Int32) : ∀ j, j ≤ 12 → jw_part (jC h' b) a c p l j = jw_part (jC h b) a c p l j
  | 0, _ => rfl
  | j + 1, hj => by
    have e1 : jC h' b c j = jC h b c j := by
      rcases hc with rfl | rfl
      · exact jBk_c6 E (by omega)
      · exact jBk_c7 E (by omega)
    have e8 : jC h' b 8 j = jC h b 8 j := jBk_c8 E (by omega)
    have ih := jBk_part E hc a p l j (by omega)
    have g := jBk_goes E (show j < 12 by omega) a l
    by_cases q : jw_goes (jC h b) a j l
    · have q' := g.mpr q
      by_cases z : jC h b c j = p
      · rw [jw_part_yes q z, jw_part_yes q' (e1.trans z), ih, e8]
      · rw [jw_part_zero q z, jw_part_zero q' (fun y => z (e1.symm.trans y)), ih]
    · rw [jw_part_no q, jw_part_no (fun y => q (g.mp y)), ih]
theorem jBk_env {b : Nat} {h h' : jx_H} (E : jBk b h h') (a : jw_A) (p : Nat) (l : Int32) {nd : Nat} (hn : nd ≤ 12) : jw_env (jC h' b) a p l nd = jw_env (jC h b) a p l nd := by
  have e0 : ∀ C : jw_C, jw_env C a p l nd 0 = l := fun _ => rfl
  have e1 : ∀ C : jw_C, jw_env C a p l nd 1 = jw_part C a 7 (nI p) l nd := fun _ => rfl
  have e2 : ∀ C : jw_C, jw_env C a p l nd 2 = jw_part C a 6 (nI p) l nd := fun _ => rfl
  have e3 : ∀ C : jw_C, jw_env C a p l nd 3 = jw_down (jw_dU C (a 1 + l) (a 0 + 1)) (jw_dL C) := fun _ => rfl
  have e4 : ∀ C : jw_C, jw_env C a p l nd 4 = a (2 + p) := fun _ => rfl
  have e5 : ∀ (C : jw_C) (n : Nat), jw_env C a p l nd (n + 5) = 0 := fun _ _ => rfl
  funext x
  match x with
  | 0 => rw [e0, e0]
  | 1 => rw [e1, e1, jBk_part E (Or.inr rfl) a _ l nd hn]
  | 2 => rw [e2, e2, jBk_part E (Or.inl rfl) a _ l nd hn]
  | 3 => rw [e3, e3, jBk_dU E, jBk_dL E]
  | 4 => rw [e4, e4]
  | n + 5 => rw [e5, e5]
theorem jBk_lenv {b : Nat} {h h' : jx_H} (E : jBk b h h') (a : jw_A) (l : Int32) : jw_lenv (jC h' b) a l = jw_lenv (jC h b) a l := by
  have e0 : ∀ C : jw_C, jw_lenv C a l 0 = l := fun _ => rfl
  have e1 : ∀ C : jw_C, jw_lenv C a l 1 = 0 := fun _ => rfl
  have e2 : ∀ C : jw_C, jw_lenv C a l 2 = 0 := fun _ => rfl
  have e3 : ∀ C : jw_C, jw_lenv C a l 3 = jw_down (jw_dU C (a 1 + l) (a 0 + 1)) (jw_dL C) := fun _ => rfl
  have e5 : ∀ (C : jw_C) (n : Nat), jw_lenv C a l (n + 4) = 0 := fun _ _ => rfl
  funext x
  match x with
  | 0 => rw [e0, e0]
  | 1 => rw [e1, e1]
  | 2 => rw [e2, e2]
  | 3 => rw [e3, e3, jBk_dU E, jBk_dL E]
  | n + 4 => rw [e5, e5]
theorem jBk_asked {b : Nat} {h h' : jx_H} (E : jBk b h h') (a : jw_A) (F : Nat → Int32) : jw_asked (jC h' b) a F = jw_asked (jC h b) a F := by
  funext c n
  unfold jw_asked
  rw [jBk_month E, jBk_c0 E]
theorem jw_evs_congr {cd cd' nm nm' : Nat → Int32} {ask : Int32 → Int32 → Int32} : ∀ (n k : Nat) (s : List Int32), (∀ q, k ≤ q → q < k + n → cd' q = cd q ∧ nm' q = nm q) → jw_evs cd' nm' ask n k s = jw_evs cd nm ask n k s
  | 0, _, _, _ => rfl
  | n + 1, k, s, e => by
    have e0 := e k (Nat.le_refl _) (by omega)
    show jw_evs cd' nm' ask n (k + 1) (jw_st (cd' k) (ask (cd' k) (nm' k)) s) = jw_evs cd nm ask n (k + 1) (jw_st (cd k) (ask (cd k) (nm k)) s)
    rw [e0.1, e0.2]
    exact jw_evs_congr n (k + 1) _ (fun q h1 h2 => e q (by omega) (by omega))
theorem jw_ok_congr {cd cd' : Nat → Int32} : ∀ (n k m : Nat), (∀ q, k ≤ q → q < k + n → cd' q = cd q) → jw_ok cd n k m → jw_ok cd' n k m
  | 0, _, _, _, g => g
  | n + 1, k, m, e, g => by
    have e0 := e k (Nat.le_refl _) (by omega)
    have ih := fun m => jw_ok_congr n (k + 1) m (fun q h1 h2 => e q (by omega) (by omega))
    show (cd' k = 126 ∧ _) ∨ (cd' k ≠ 126 ∧ _) ∨ _
    rw [e0]
    rcases g with ⟨a, b, c⟩ | ⟨a, b, c, d⟩ | ⟨a, b, c, d⟩
    · exact Or.inl ⟨a, b, ih _ c⟩
    · exact Or.inr (Or.inl ⟨a, b, c, ih _ d⟩)
    · exact Or.inr (Or.inr ⟨a, b, c, ih _ d⟩)
theorem jw_okb_congr {B : Nat} {cd cd' : Nat → Int32} : ∀ (n k m : Nat), (∀ q, k ≤ q → q < k + n → cd' q = cd q) → jw_okb B cd n k m → jw_okb B cd' n k m
  | 0, _, _, _, g => g
  | n + 1, k, m, e, g => by
    have e0 := e k (Nat.le_refl _) (by omega)
    have ih := fun m => jw_okb_congr (B := B) n (k + 1) m (fun q h1 h2 => e q (by omega) (by omega))
    show (cd' k = 126 ∧ _) ∨ (cd' k ≠ 126 ∧ _) ∨ _
    rw [e0]
    rcases g with ⟨a, b, c⟩ | ⟨a, b, c, d⟩ | ⟨a, b, c, d⟩
    · exact Or.inl ⟨a, b, ih _ c⟩
    · exact Or.inr (Or.inl ⟨a, b, c, ih _ d⟩)
    · exact Or.inr (Or.inr ⟨a, b, c, ih _ d⟩)
theorem jBk_rk {b : Nat} {h h' : jx_H} (E : jBk b h h') {r : Nat} (hr : r < 6) : jw_rk h' b r = jw_rk h b r := congrArg Int32.toNatClampNeg (jBk_at E (a := 82) (w := 6) (q := 6 * b + r) (by decide) (by decide) (by omega) (by omega))
theorem jBk_rn {b : Nat} {h h' : jx_H} (E : jBk b h h') {r : Nat} (hr : r < 6) : jw_rn h' b r = jw_rn h b r := by
  unfold jw_rn
  rw [jBk_rk E hr, jBk_at E (a := 83) (w := 6) (q := 6 * b + r) (by decide) (by decide) (by omega) (by omega)]
theorem jR_rng {b r : Nat} {h : jx_H} (R : jz_R h b) (hr : r < 6) (q : ¬ jC h b 18 r = 0) : 620 * b ≤ jw_rk h b r ∧ jw_rk h b r + jw_rn h b r ≤ 620 * b + 620 := by
  obtain ⟨-, -, -, -, -, -, -, -, -, -, -, ⟨u, -, -, g⟩, -⟩ := R
  exact (g r hr).resolve_left q
theorem jBk_val {b : Nat} {h h' : jx_H} (E : jBk b h h') {r : Nat} (hr : r < 6) (g : 620 * b ≤ jw_rk h b r ∧ jw_rk h b r + jw_rn h b r ≤ 620 * b + 620) (ask : Int32 → Int32 → Int32) : jw_val h' b r ask = jw_val h b r ask := by
  unfold jw_val
  rw [jBk_rk E hr, jBk_rn E hr, jw_evs_congr (cd := jh_I h 93 0) (nm := jh_I h 94 0) _ _ _ (fun q h1 h2 => ⟨jBk_at E (a := 93) (w := 620) (by decide) (by decide) (by omega) (by omega), jBk_at E (a := 94) (w := 620) (by decide) (by decide) (by omega) (by omega)⟩)]
theorem jBk_worth {b : Nat} {h h' : jx_H} (E : jBk b h h') (hA : jA h' = jA h) (R : jz_R h b) {p nd : Nat} (hp : p < 5) (l : Int32) (hn : nd ≤ 12) : jw_worth h' b p l nd = jw_worth h b p l nd := by
  unfold jw_worth
  rw [jBk_c18 E (by omega)]
  by_cases q : jC h b 18 p = 0
  · rw [if_pos q, if_pos q]
  · rw [if_neg q, if_neg q, hA, jBk_asked E, jBk_env E _ _ _ hn]
    exact jBk_val E (by omega) (jR_rng R (by omega) q) _
theorem jBk_law {b : Nat} {h h' : jx_H} (E : jBk b h h') (hA : jA h' = jA h) (R : jz_R h b) (q : ¬ jC h b 18 5 = 0) : jw_law h' b = jw_law h b := by
  funext l
  unfold jw_law
  rw [hA, jBk_asked E, jBk_lenv E]
  exact jBk_val E (by omega) (jR_rng R (by omega) q) _
theorem jw_m0_0 (f t : Int32) (P P' : Nat → Int32) : jw_m0 f t 0 P = jw_m0 f t 0 P' := by
  funext l
  unfold jw_m0
  by_cases q : f ≤ nI l ∧ nI l ≤ t
  · rw [if_pos q, if_pos q]
    rfl
  · rw [if_neg q, if_neg q]
theorem jw_may_0 (f t : Int32) (P P' : Nat → Int32) : jw_may f t 0 P = jw_may f t 0 P' := by
  funext l
  unfold jw_may
  rw [jw_m0_0 f t P P']
theorem jR_m6 {b : Nat} {h : jx_H} (R : jz_R h b) (hmo : ¬ jC h b 0 0 = 0) (a : jw_A) : (jw_month (jC h b) a).toNatClampNeg < 6 := by
  obtain ⟨⟨h1, h2⟩, -⟩ := R
  have e1 := jw_rem_lt (x := a 0) (y := jC h b 0 0) hmo
  have e2 : (jC h b 0 0).toInt = (jz_nm h b : Int) := (congrArg Int32.toInt h1).trans (nI_toInt (by omega))
  show (jw_rem (a 0) (jC h b 0 0)).toInt.toNat < 6
  omega
theorem jBk_mayb {b : Nat} {h h' : jx_H} (E : jBk b h h') (hA : jA h' = jA h) (R : jz_R h b) (hmo : ¬ jC h b 0 0 = 0) : jw_mayb h' b = jw_mayb h b := by
  have hm6 := jR_m6 R hmo (jA h)
  unfold jw_mayb
  rw [hA, jBk_month E, jBk_c3 E hm6, jBk_c4 E hm6, jBk_c18 E (by omega)]
  by_cases q : jC h b 18 5 = 0
  · rw [q]
    exact jw_may_0 _ _ _ _
  · rw [jBk_law E hA R q]
theorem jBk_voteb {b : Nat} {h h' : jx_H} (E : jBk b h h') (hA : jA h' = jA h) (R : jz_R h b) (hmo : ¬ jC h b 0 0 = 0) {p : Nat} (hp : p < 5) : jw_voteb h' b p = jw_voteb h b p := by
  have e : (fun l => jw_worth h' b p (nI l) (jz_nd h' b)) = fun l => jw_worth h b p (nI l) (jz_nd h b) := funext fun l => by
    rw [jBk_nd E]
    exact jBk_worth E hA R hp _ R.2.2.1.2
  unfold jw_voteb
  rw [e, jBk_mayb E hA R hmo]
theorem jw_tally_congr {V V' : Nat → Nat} {w : Nat → Int32} : ∀ n, (∀ p, p < n → V' p = V p) → jw_tally V' w n = jw_tally V w n
  | 0, _ => rfl
  | n + 1, e => by
    show upd (jw_tally V' w n) (V' n) (jw_tally V' w n (V' n) + w n) = upd (jw_tally V w n) (V n) (jw_tally V w n (V n) + w n)
    rw [jw_tally_congr n (fun p hp => e p (by omega)), e n (by omega)]
theorem jw_wlen_congr {V V' : Nat → Nat} {w : Nat → Int32} : ∀ n, (∀ p, p < n → V' p = V p) → jw_wlen V' w n = jw_wlen V w n
  | 0, _ => rfl
  | n + 1, e => by
    show jw_wlen V' w n + w n * nI (V' n) = jw_wlen V w n + w n * nI (V n)
    rw [jw_wlen_congr n (fun p hp => e p (by omega)), e n (by omega)]
theorem jBk_counted {b : Nat} {h h' : jx_H} (E : jBk b h h') (hA : jA h' = jA h) (R : jz_R h b) (hmo : ¬ jC h b 0 0 = 0) : jw_counted h' b = jw_counted h b := by
  have hV : ∀ p, p < jz_np h b → jw_V h' b p = jw_V h b p := fun p hp => congrArg Int32.toNatClampNeg (jBk_voteb E hA R hmo (Nat.lt_of_lt_of_le hp R.2.1.2))
  unfold jw_counted
  rw [jBk_mayb E hA R hmo, jBk_c15 E, jBk_np E, hA]
  unfold jw_count
  rw [jw_wlen_congr _ hV, jw_tally_congr _ hV]
theorem jBk_g1 {b : Nat} {h h' : jx_H} (E : jBk b h h') {d : Nat} (hd : d < 12) (l : Int32) (a : jw_A) : jw_g1 (jC h' b) l d a = jw_g1 (jC h b) l d a := by
  unfold jw_g1
  rw [jBk_c10 E hd, jBk_month E, jBk_paid E hd, jBk_c6 E hd, jBk_c7 E hd, jBk_c8 E hd]
theorem jBk_gd {b : Nat} {h h' : jx_H} (E : jBk b h h') (l : Int32) : ∀ (n d : Nat) (a : jw_A), d + n ≤ 12 → jw_gd (jC h' b) l n d a = jw_gd (jC h b) l n d a
  | 0, _, _, _ => rfl
  | n + 1, d, a, hn => by
    show jw_gd (jC h' b) l n (d + 1) (jw_g1 (jC h' b) l d a) = jw_gd (jC h b) l n (d + 1) (jw_g1 (jC h b) l d a)
    rw [jBk_g1 E (by omega)]
    exact jBk_gd E l n (d + 1) _ (by omega)
theorem jBk_re {b : Nat} {h h' : jx_H} (E : jBk b h h') (R : jz_R h b) (l : Int32) (a : jw_A) : jw_re h' b l a = jw_re h b l a := by
  unfold jw_re jw_gb
  rw [jBk_nd E, jBk_gd E l _ _ _ (by have := R.2.2.1.2; omega)]
theorem jBk_98 {b : Nat} {h h' : jx_H} (E : jBk b h h') (a : jw_A) : jBk b (ju_I h 98 0 a) (ju_I h' 98 0 a) := fun c q h1 h2 h3 h4 => (congrFun (show jh_I (ju_I h' 98 0 a) c 0 = jh_I h' c 0 from if_neg (fun y => by omega)) q).trans ((E c q h1 h2 h3 h4).trans (congrFun (show jh_I (ju_I h 98 0 a) c 0 = jh_I h c 0 from if_neg (fun y => by omega)) q).symm)
theorem jBk_ru {b : Nat} {h h' : jx_H} (E : jBk b h h') (R : jz_R h b) (hmo : ¬ jC h b 0 0 = 0) : ∀ (n : Nat) (a : jw_A), jw_ru h' b n a = jw_ru h b n a
  | 0, _ => rfl
  | n + 1, a => by
    rw [jw_ru, jw_ru, jBk_counted (jBk_98 E a) rfl (show jz_R (ju_I h 98 0 a) b from R) (show ¬ jC (ju_I h 98 0 a) b 0 0 = 0 from hmo), jBk_re E R, jBk_ru E R hmo n]
theorem jz_act_b {b : Nat} {h h' : jx_H} (E : jBk b h h') (R : jz_R h b) {kd wh bf af : Int32} {a a2 : jw_A} (g : jz_act h b kd wh bf af a a2) : jz_act h' b kd wh bf af a a2 := by
  rcases g with ⟨e, n, w, h1, h2, h3, h4, h5, h6⟩ | ⟨e, h1, l, w, h2, h3, h4, h5, h6⟩ | ⟨e, d, h1, h2, h3⟩ | ⟨e, p, v, h1, h2, h3, h4, h5, h6⟩
  · exact Or.inl ⟨e, n, w, h1, h2, h3, h4, by rw [jBk_c0 E]; exact h5, by rw [jBk_ru E R h5]; exact h6⟩
  · exact Or.inr (Or.inl ⟨e, by rw [jBk_c0 E]; exact h1, l, w, h2, h3, h4, h5, by rw [jBk_re E R]; exact h6⟩)
  · exact Or.inr (Or.inr (Or.inl ⟨e, d, h1, by rw [jBk_nd E]; exact h2, h3⟩))
  · exact Or.inr (Or.inr (Or.inr ⟨e, p, v, h1, by rw [jBk_np E]; exact h2, h3, h4, h5, h6⟩))
theorem jz_R_b {b : Nat} {h h' : jx_H} (E : jBk b h h') (R : jz_R h b) : jz_R h' b := by
  obtain ⟨⟨a1, a2⟩, ⟨b1, b2⟩, ⟨c1, c2⟩, m, d, s, w, k, br, ru, rb, ⟨u, u1, u2, u3⟩, v⟩ := id R
  have en := jBk_nm E
  have ep := jBk_np E
  have ed := jBk_nd E
  refine ⟨⟨by rw [en]; exact (jBk_c0 (i := 0) E).trans a1, by rw [en]; exact a2⟩, ⟨by rw [ep]; exact (jBk_c1 (i := 0) E).trans b1, by rw [ep]; exact b2⟩, ⟨by rw [ed]; exact (jBk_c2 (i := 0) E).trans c1, by rw [ed]; exact c2⟩, fun j hj => ?_, fun j hj => ?_, ?_, by rw [jBk_c15 E]; exact w, by rw [jBk_c16 E]; exact k, by rw [jBk_c17 E]; exact br, fun r hr => ?_, fun r h1 h2 => ?_, ⟨u, (jBk_at E (a := 69) (w := 1) (q := b) (by decide) (by decide) (by omega) (by omega)).trans u1, u2, fun r hr => ?_⟩, fun p hp => ?_⟩
  · rw [en] at hj
    rw [jBk_c3 E (by omega), jBk_c4 E (by omega)]
    exact m j hj
  · rw [ed] at hj
    unfold jz_due
    rw [jBk_c6 E (by omega), jBk_c7 E (by omega), jBk_c8 E (by omega), jBk_c9 E (by omega), jBk_c10 E (by omega), jBk_c11 E (by omega), en, ep]
    exact d j hj
  · rw [jBk_c12 E, jBk_c13 E, jBk_c14 E]
    exact s
  · rw [jBk_c18 E hr]
    rcases ru r hr with q | ⟨q, g1, g2, g3, g4⟩
    · exact Or.inl q
    · refine Or.inr ⟨q, ?_⟩
      obtain ⟨r1, r2⟩ := jR_rng R hr (by rw [q]; decide)
      unfold jw_good
      rw [jBk_rk E hr, jBk_rn E hr]
      exact ⟨(jBk_at E (a := 82) (w := 6) (by decide) (by decide) (by omega) (by omega)).trans g1, (jBk_at E (a := 83) (w := 6) (by decide) (by decide) (by omega) (by omega)).trans g2, g3, jw_ok_congr _ _ _ (fun q h1 h2 => jBk_at E (a := 93) (w := 620) (by decide) (by decide) (by omega) (by omega)) g4⟩
  · rw [ep] at h1
    rw [jBk_c18 E (by omega)]
    exact rb r h1 h2
  · rw [jBk_c18 E hr, jBk_rk E hr, jBk_rn E hr]
    exact u3 r hr
  · rw [ep] at hp
    rw [jBk_c5 E (by omega)]
    exact v p hp
/-- the class's rows of a republic stand -/
def jCk (r : Nat) (h h' : jx_H) : Prop := (∀ a, a = 7 ∨ (21 ≤ a ∧ a ≤ 27) → jh_I h' a r = jh_I h a r) ∧ (∀ d, d < 12 → jh_I h' 2 (12 * r + d) = jh_I h 2 (12 * r + d))
theorem jy_R_b {b r : Nat} {hc hc' h h' : jx_H} (E : jBk b h h') (C : jCk r hc hc') (R : jz_R h b) (Y : jy_R hc r h b) : jy_R hc' r h' b := by
  obtain ⟨y0, y3, y5, ym, yp, yd, y7, y8, y9, y10, y11, y12, yc⟩ := Y
  have g7 : jh_I hc' 7 r = jh_I hc 7 r := C.1 7 (Or.inl rfl)
  have n6 := R.1.2
  have p5 := R.2.1.2
  have d12 := R.2.2.1.2
  refine ⟨by rw [g7, jBk_c0 E]; exact y0, by rw [g7, jBk_c1 E]; exact y3, by rw [g7, jBk_c2 E]; exact y5, fun j hj => ?_, fun p hp => ?_, fun d hd => ?_, by rw [g7, jBk_sunU E]; exact y7, fun z => by rw [jBk_c0 E] at z; rw [g7, jBk_sunL E]; exact y8 z, by rw [g7, jBk_c15 E]; exact y9, by rw [g7, jBk_c16 E]; exact y10, by rw [g7, jBk_c17 E]; exact y11, by rw [g7, jBk_at E (a := 69) (w := 1) (q := b) (by decide) (by decide) (by omega) (by omega)]; exact y12, fun w hw => ?_⟩
  · rw [jBk_nm E] at hj
    rw [C.1 21 (by omega), C.1 22 (by omega), jBk_c3 E (by omega), jBk_c4 E (by omega)]
    exact ym j hj
  · rw [jBk_np E] at hp
    rw [C.1 23 (by omega), jBk_c5 E (by omega)]
    exact yp p hp
  · rw [jBk_nd E] at hd
    unfold jy_due
    rw [C.2 d (by omega), jBk_c6 E (by omega), jBk_c7 E (by omega), jBk_c8 E (by omega), jBk_c9 E (by omega), jBk_c10 E (by omega), jBk_c11 E (by omega)]
    exact yd d hd
  · obtain ⟨s, s1, s2, s3, s4⟩ := yc w hw
    have e18 := jBk_c18 E hw
    have er : jy_rn h' b w = jy_rn h b w := by
      show (if jC h' b 18 w = 0 then 0 else jw_rn h' b w) = _
      rw [e18, jBk_rn E hw]
    refine ⟨s, by rw [C.1 26 (by omega)]; exact s1, by rw [C.1 27 (by omega), er]; exact s2, by rw [er]; exact s3, fun q => ?_⟩
    rw [e18] at q
    obtain ⟨t1, t2, t3⟩ := s4 q
    obtain ⟨r1, r2⟩ := jR_rng R hw q
    rw [jBk_rk E hw, jBk_rn E hw, C.1 25 (by omega), g7]
    have e93 : ∀ q, q < jw_rn h b w → jh_I h' 93 0 (jw_rk h b w + q) = jh_I h 93 0 (jw_rk h b w + q) := fun q hq => jBk_at E (a := 93) (w := 620) (by decide) (by decide) (by omega) (by omega)
    have e94 : ∀ q, q < jw_rn h b w → jh_I h' 94 0 (jw_rk h b w + q) = jh_I h 94 0 (jw_rk h b w + q) := fun q hq => jBk_at E (a := 94) (w := 620) (by decide) (by decide) (by omega) (by omega)
    refine ⟨fun q hq => ?_, jw_okb_congr _ _ _ (fun q h1 h2 => jBk_at E (a := 93) (w := 620) (by decide) (by decide) (by omega) (by omega)) t2, fun z q hq => ?_⟩
    · rw [e93 q hq, e94 q hq]
      exact t1 q hq
    · rw [e93 q hq]
      exact t3 z q hq
