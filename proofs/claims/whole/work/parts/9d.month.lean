theorem jo_n {o : Option Nat} {n : Nat} (h : ∀ j, o = some j → j < n) (hn : n < 1000) : jo_i o = -1 ↔ o = none := by
  cases o with
  | none => exact ⟨fun _ => rfl, fun _ => rfl⟩
  | some j =>
    have := h j rfl
    exact ⟨fun z => absurd z (jl_m1 (by omega)), fun z => by cases z⟩
/-- how a month's line fails -/
def jBm (B : Nat → Int32) (sz t : Nat) (W : Nat → List Nat) (n : Nat) (kd : Int32) (pl : Nat) : Prop :=
  (jT_K B sz t ≠ 3 ∧ kd = jX_kd (jT_K B sz t) ∧ pl = jT_p B sz t) ∨ (jT_K B sz t = 3 ∧ (∃ j, jnF W (jT_wd B sz (jT_p B sz t)) n 0 = some j) ∧ kd = 3 ∧ pl = jT_p B sz t) ∨ (jT_K B sz t = 3 ∧ jnF W (jT_wd B sz (jT_p B sz t)) n 0 = none ∧
    ((jT_K B sz (t + 1) ≠ 107 ∧ kd = jX_kd (jT_K B sz (t + 1)) ∧ pl = jT_p B sz (t + 1)) ∨ (jT_K B sz (t + 1) = 107 ∧ ((jT_K B sz (t + 2) ≠ 2 ∧ kd = jX_kd (jT_K B sz (t + 2)) ∧ pl = jT_p B sz (t + 2)) ∨ (jT_K B sz (t + 2) = 2 ∧ 31 < jT_v B sz (jT_p B sz (t + 2)) ∧ kd = 4 ∧ pl = jT_p B sz (t + 2)) ∨ (jT_K B sz (t + 2) = 2 ∧ jT_v B sz (jT_p B sz (t + 2)) ≤ 31 ∧
      ((jT_K B sz (t + 3) ≠ 108 ∧ kd = jX_kd (jT_K B sz (t + 3)) ∧ pl = jT_p B sz (t + 3)) ∨ (jT_K B sz (t + 3) = 108 ∧ ((jT_K B sz (t + 4) ≠ 2 ∧ kd = jX_kd (jT_K B sz (t + 4)) ∧ pl = jT_p B sz (t + 4)) ∨ (jT_K B sz (t + 4) = 2 ∧ (jT_v B sz (jT_p B sz (t + 4)) < jT_v B sz (jT_p B sz (t + 2)) ∨ 31 < jT_v B sz (jT_p B sz (t + 4))) ∧ kd = 4 ∧ pl = jT_p B sz (t + 4))))))))))
def jGm (B : Nat → Int32) (sz t : Nat) (W : Nat → List Nat) (n : Nat) : Prop := jT_K B sz t = 3 ∧ jnF W (jT_wd B sz (jT_p B sz t)) n 0 = none ∧ jT_K B sz (t + 1) = 107 ∧ jT_K B sz (t + 2) = 2 ∧ jT_v B sz (jT_p B sz (t + 2)) ≤ 31 ∧ jT_K B sz (t + 3) = 108 ∧ jT_K B sz (t + 4) = 2 ∧ jT_v B sz (jT_p B sz (t + 2)) ≤ jT_v B sz (jT_p B sz (t + 4)) ∧ jT_v B sz (jT_p B sz (t + 4)) ≤ 31
