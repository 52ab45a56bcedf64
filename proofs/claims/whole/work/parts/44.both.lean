/-- a good real calendar -/
def jz_G (hm : jx_H) (b : Nat) (a : jw_A) : Prop := jz_A (jz_np hm b) (jz_nm hm b) a ∧ ∃ w : Nat, a 0 = nI w ∧ w ≤ 300 ∧ a 1 = jw_sum (fun j => a (37 + j)) w ∧ (∀ j, j < w → ∃ l : Nat, a (37 + j) = nI l ∧ l ≤ 31)
def jy_L (hc : jx_H) (c : Nat) (a : jw_A) : Prop := ∀ j, j < (a 0).toNatClampNeg → jh_I hc 31 c j = a (37 + j)
def jz_C (hc hm : jx_H) (b r : Nat) : Prop := jz_W hm b ∧ jz_G hm b (jA hm) ∧ r < 2 ∧ jh_M hc 10 0 11 = r + 1 ∧ jh_M hc 10 0 12 = (1 - r) + 1 ∧ jy_R hc r hm b ∧ jy_A hc 0 r (jA hm) ∧ jy_L hc 0 (jA hm)
def jz_Ta (hc hm : jx_H) : Prop := ∃ s : Nat, jh_I hc 9 0 5 = nI s ∧ jh_I hm 11 0 2 = nI s ∧ s ≤ 1700 ∧ ∀ j, j < s → jh_I hc 16 0 j = jh_I hm 64 0 j
def jz_Fa (hc hm : jx_H) : Prop := jh_I hc 10 0 15 = jh_I hm 11 0 4 ∧ jh_I hc 10 0 16 = jh_I hm 11 0 5
def jz_Ly (hc hm : jx_H) : Prop := ∃ s : Nat, s ≤ 5 ∧ jh_I hc 10 0 13 = nI s ∧ jh_I hm 11 0 65 = nI s ∧ ∀ j, j < s → jh_I hc 63 0 j = jh_I hm 106 0 j
def jz_Ti (hc hm : jx_H) : Prop := ∃ t : Nat, t ≤ 100000 ∧ jh_I hc 10 0 14 = nI t ∧ jh_I hm 11 0 81 = nI t
def jz_Le1 (hc hm : jx_H) (b j : Nat) : Prop := ∃ q m e t : Nat, jh_I hc 52 0 j = nI q ∧ jh_I hm 113 0 j = nI q ∧ q ≤ 400 ∧ jh_I hm 114 0 j = nI m ∧ m < jz_nm hm b ∧ jh_I hm 115 0 j = nI e ∧ 1 ≤ e ∧ e ≤ 31 ∧ jh_I hc 53 0 j = nI (m * 32 + e) ∧
  jh_I hc 54 0 j = nI t ∧ jh_I hm 116 0 j = nI t ∧ jh_I hc 55 0 j = jh_I hm 117 0 j ∧ (jh_I hm 117 0 j = -1 ∨ ∃ u : Nat, jh_I hm 117 0 j = nI u ∧ u ≤ 100000)
def jz_Le (hc hm : jx_H) (b : Nat) : Prop := ∃ n : Nat, n ≤ 30 ∧ jh_I hc 4 0 4 = nI n ∧ jh_I hm 11 0 80 = nI n ∧ ∀ j, j < n → jz_Le1 hc hm b j
def jz_Bo (hc hm : jx_H) (b r : Nat) : Prop := ∀ i, i < 3 → jh_I hc 62 0 i = jh_I hm 122 0 i ∧ (jh_I hm 122 0 i = 0 ∨ jh_I hm 122 0 i = 1 ∧ ∃ β : jw_A, jz_G hm b β ∧ jy_A hc (i + 1) r β ∧ jy_L hc (i + 1) β ∧ (∀ k, k < 337 → jh_I hm 121 0 (337 * i + k) = β k) ∧ (∀ k, 337 ≤ k → β k = jA hm k))
/-- a month comes, in earnest -/
def jw_re (hm : jx_H) (b : Nat) (l : Int32) (a : jw_A) : jw_A := jw_gb (jC hm b) (jz_nd hm b) l (upd a (37 + (a 0).toNatClampNeg) l)
def jw_ru (hm : jx_H) (b : Nat) : Nat → jw_A → jw_A
  | 0, a => a
  | n + 1, a => jw_ru hm b n (jw_re hm b (jw_counted (ju_I hm 98 0 a) b) a)
/-- an act takes the calendar from a to a2 -/
def jz_act (hm : jx_H) (b : Nat) (kd wh bf af : Int32) (a a2 : jw_A) : Prop :=
  (kd = 0 ∧ ∃ n w : Nat, wh = nI n ∧ n ≤ 60 ∧ a 0 = nI w ∧ w + n ≤ 300 ∧ ¬ jC hm b 0 0 = 0 ∧ a2 = jw_ru hm b n a) ∨
  (kd = 1 ∧ ¬ jC hm b 0 0 = 0 ∧ ∃ l w : Nat, wh = nI l ∧ l ≤ 31 ∧ a 0 = nI w ∧ w + 1 ≤ 300 ∧ a2 = jw_re hm b (nI l) a) ∨
  (kd = 2 ∧ ∃ d : Nat, wh = nI d ∧ d < jz_nd hm b ∧ a2 = upd a 36 (a 36 ^^^ ((1 : Int32) <<< (nI d &&& 31)))) ∨
  (kd = 3 ∧ ∃ p v : Nat, wh = nI p ∧ p < jz_np hm b ∧ bf = a (7 + p) ∧ af = nI v ∧ v ≤ 9 ∧ a2 = upd a (7 + p) (nI v))
def jz_Ac (hc hm : jx_H) (b : Nat) : Prop := ∃ n u : Nat, n + u ≤ 40 ∧ jh_I hc 0 0 4 = nI n ∧ jh_I hc 0 0 5 = nI (n + u) ∧ jh_I hm 11 0 60 = nI n ∧ jh_I hm 11 0 61 = nI u ∧ ∃ σ : Nat → jw_A, σ n = jA hm ∧
  (∀ j, j < n → ∀ k, k < 337 → jh_I hm 103 0 (337 * j + k) = σ j k) ∧ (∀ j, n ≤ j → j < n + u → ∀ k, k < 337 → jh_I hm 103 0 (337 * j + k) = σ (j + 1) k) ∧
  (∀ j, j ≤ n + u → jz_G hm b (σ j)) ∧ (∀ j, j ≤ n + u → ∀ k, 337 ≤ k → σ j k = jA hm k) ∧ (∀ j, j < n + u → jz_act hm b (jh_I hc 48 0 j) (jh_I hc 49 0 j) (jh_I hc 50 0 j) (jh_I hc 51 0 j) (σ j) (σ (j + 1)))
/-! what the acts ask of the model's heap: its banks' rows alone -/
def jk_n (a : Nat) : Bool := Nat.ble 66 a && Nat.ble a 94
def jN (h : jx_H) : jx_H := (fun a b => if jk_n a = true ∧ b = 0 then h.1 a 0 else fun _ => 0, fun _ _ _ => 0, fun _ _ _ => 0, 0)
theorem jC_N (h : jx_H) (b : Nat) : jC (jN h) b = jC h b := rfl
theorem jw_counted_N (h : jx_H) (b : Nat) (a : jw_A) : jw_counted (ju_I (jN h) 98 0 a) b = jw_counted (ju_I h 98 0 a) b := rfl
theorem jw_re_N (h : jx_H) (b : Nat) (l : Int32) (a : jw_A) : jw_re (jN h) b l a = jw_re h b l a := rfl
theorem jw_ru_N (h : jx_H) (b : Nat) : ∀ (n : Nat) (a : jw_A), jw_ru (jN h) b n a = jw_ru h b n a
  | 0, _ => rfl
  | n + 1, a => by rw [jw_ru, jw_ru, jw_counted_N, jw_re_N, jw_ru_N h b n]
theorem jz_act_N (h : jx_H) (b : Nat) {kd wh bf af : Int32} {a a2 : jw_A} : jz_act (jN h) b kd wh bf af a a2 ↔ jz_act h b kd wh bf af a a2 := by
  unfold jz_act
  simp only [jw_ru_N, jw_re_N, jC_N]
  exact Iff.rfl
theorem jz_act_t {h h' : jx_H} {b : Nat} {kd wh bf af : Int32} {a a2 : jw_A} (e : jN h' = jN h) (g : jz_act h b kd wh bf af a a2) : jz_act h' b kd wh bf af a a2 := by
  rw [← jz_act_N, e, jz_act_N]
  exact g
theorem jz_R_N (h : jx_H) (b : Nat) : jz_R (jN h) b = jz_R h b := rfl
theorem jz_G_N (h : jx_H) (b : Nat) (a : jw_A) : jz_G (jN h) b a = jz_G h b a := rfl
theorem jN_S (h : jx_H) (S : Nat → Nat → Int32) : jN (jS h S) = jN h := by
  unfold jN jS
  refine Prod.ext ?_ rfl
  funext x y
  dsimp only
  split
  · rename_i e
    rw [if_neg]
    intro z
    have h1 := e.1
    have h2 := z.1
    unfold jk_n at h1
    unfold jk_s at h2
    simp only [Bool.and_eq_true, Nat.ble_eq, Bool.or_eq_true, beq_iff_eq] at h1 h2
    omega
  · rfl
/-- the words that the class's tape knows -/
def jy_words : List (List Nat) := [[109, 111, 110, 116, 104], [100, 97, 121, 115], [103, 101, 116, 115], [111, 119, 101, 115], [100, 114, 105, 102, 116], [121, 101, 97, 114], [104, 97, 118, 101], [102, 114, 111, 109], [116, 111], [112, 101, 114, 115, 111, 110], [118, 111, 116, 101, 115], [119, 105, 115, 104], [100, 117, 101], [98, 121], [112, 97, 121, 115], [111, 110], [111, 102], [108, 97, 116, 101], [115, 117, 110], [97, 110, 100], [108, 97, 119], [99, 111, 117, 110, 116], [109, 111, 115, 116], [109, 105, 100, 100, 108, 101], [109, 101, 97, 110], [119, 101, 101, 107], [98, 114, 111, 107, 101, 110], [111, 114], [110, 111, 116]]
def jy_key (w : List Nat) : Int64 := w.foldl (fun k c => k * 32 + (lN c - 97 + 1)) 0
def jz_Wo (hc : jx_H) : Prop := ∀ i, i < 29 → jh_L hc 17 0 i = jy_key (jy_words.getD i [])
def jz_Rel (hc hm : jx_H) : Prop := ∃ b r : Nat, jz_C hc hm b r ∧ jz_Ta hc hm ∧ jz_Fa hc hm ∧ jz_Ly hc hm ∧ jz_Ti hc hm ∧ jz_Le hc hm b ∧ jz_Bo hc hm b r ∧ jz_Ac hc hm b ∧ jz_Wo hc
/-- scratch rows may change -/
theorem jz_Rel_s {hc hm : jx_H} {T S S' : Nat → Nat → Int32} {m k : Nat} (h : jz_Rel hc hm) (hS : jz_S hm S') : jz_Rel (jP (jK hc 4 T m) S k) (jS hm S') := by
  obtain ⟨b, r, ⟨c1, c2, c3, c4, c5, c6, c7, c8⟩, ⟨s, t1, t2, t3⟩, ⟨f1, f2⟩, ⟨s2, l1, l2, l3, l4⟩, ⟨t, i1, i2, i3⟩, ⟨n, e1, e2, e3, e4⟩, hb, ⟨n2, u, a1, a2, a3, a4, a5, a6⟩, hwo⟩ := h
  refine ⟨b, r, ⟨⟨(hS 43 (by decide)).trans c1.1, c1.2.1, c1.2.2.1, c1.2.2.2⟩, c2, c3, c4, c5, c6, c7, c8⟩, ⟨s, t1, (hS 2 (by decide)).trans t2, t3⟩, ⟨f1.trans (hS 4 (by decide)).symm, f2.trans (hS 5 (by decide)).symm⟩,
    ⟨s2, l1, l2, (hS 65 (by decide)).trans l3, l4⟩, ⟨t, i1, i2, (hS 81 (by decide)).trans i3⟩, ⟨n, e1, e2, (hS 80 (by decide)).trans e3, e4⟩, ?_, ⟨n2, u, a1, a2, a3, (hS 60 (by decide)).trans a4, (hS 61 (by decide)).trans a5, ?_⟩, hwo⟩
  rotate_left
  · obtain ⟨σ, g1, g2, g3, g4, g5, g6⟩ := a6
    exact ⟨σ, g1, g2, g3, g4, g5, fun j hj => jz_act_t (jN_S hm S') (g6 j hj)⟩
  intro i hi
  rcases Nat.lt_or_ge i 1 with q | q
  · obtain rfl : i = 0 := by omega
    exact hb 0 (by omega)
  · rcases Nat.lt_or_ge i 2 with q | q
    · obtain rfl : i = 1 := by omega
      exact hb 1 (by omega)
    · obtain rfl : i = 2 := by omega
      exact hb 2 (by omega)
theorem jz_Rel_p {hc hm : jx_H} {S S' : Nat → Nat → Int32} {k : Nat} (h : jz_Rel hc hm) (hS : jz_S hm S') : jz_Rel (jP hc S k) (jS hm S') := by
  have := jz_Rel_s (T := fun a => jh_I hc a 4) (m := jh_M hc 1 4 0) (S := S) (k := k) h hS
  rw [jK_self] at this
  exact this
