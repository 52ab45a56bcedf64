/-- every final reference is set -/
def jx_vc (sd : Nat) (h : jx_H) : Bool := (List.range (jh_n h)).all fun q => (decide (15 < (jx_cq sd q).1) || (List.range (jx_so (jx_cq sd q).1).2.2).all (fun f => decide ((jx_fi (jx_cq sd q).1 f).1 ≠ 4) || decide (jh_M h (jx_cq sd q).1 (jx_cq sd q).2 f ≠ 0))) && (Nat.ble (jx_so (jx_cq sd q).1).1 4 || (List.range (jx_so (jx_cq sd q).1).2.2).all (fun j => decide (jh_M h (jx_cq sd q).1 (jx_cq sd q).2 j ≠ 0)))
theorem jx_vh_f {sd : Nat} {h : jx_H} (hv : jx_vh sd true h) (hc : jx_vc sd h = true) : jx_vh sd false h := by
  intro q k i hq hk
  obtain ⟨v1, v2, v3⟩ := hv q k i hq hk
  have hb := List.all_eq_true.mp hc q (List.mem_range.mpr hq)
  rw [show jx_cq sd q = (k, i) by unfold jx_cq; rw [List.getD_eq_getElem?_getD, hk]; rfl] at hb
  simp only [Bool.and_eq_true, Bool.or_eq_true, List.all_eq_true, List.mem_range, decide_eq_true_eq, Nat.ble_eq] at hb
  refine ⟨fun f hf h4 => ⟨(v1 f hf h4).1, fun _ => ?_⟩, v2, fun h4 j hj => ⟨(v3 h4 j hj).1, fun _ => ?_⟩⟩
  · rcases hb.1 with z | z
    · exact absurd h4 (jx_nf4 z f)
    · exact (z f hf).resolve_left (fun y => y h4)
  · exact (hb.2.resolve_left (by omega)) j hj
/-- an object is whole: it may be used, nothing more is made of its side -/
theorem jx_rp_f {sd : Nat} {g : jx_E} {h : jx_H} {H : Heap} (Rp : jx_rp sd true g h H) (hn : jh_n h = (jx_cells sd).length) (hc : jx_vc sd h = true) : jx_rp sd false g h H :=
  ⟨Rp.1, Rp.2.1, fun z => (by cases z), fun _ => hn, jx_vh_f Rp.2.2.2.2 hc⟩
set_option maxRecDepth 100000 in
theorem jka_vc : jx_vc 0 jka_303 = true := by decide +kernel
set_option maxRecDepth 100000 in
theorem jma_vc : jx_vc 1 jma_142 = true := by decide +kernel
theorem jka_n : jh_n jka_303 = (jx_cells 0).length := by decide +kernel
theorem jma_n : jh_n jma_142 = (jx_cells 1).length := by decide +kernel
theorem jma_nm : jz_nm jma_142 0 = 0 := by decide +kernel
theorem jma_np : jz_np jma_142 0 = 0 := by decide +kernel
theorem jma_nd : jz_nd jma_142 0 = 0 := by decide +kernel
theorem jka_np : jy_np jka_303 0 = 0 := by decide +kernel
theorem jm_R0 : jz_R jma_142 0 := by
  refine ⟨⟨by decide +kernel, by rw [jma_nm]; omega⟩, ⟨by decide +kernel, by rw [jma_np]; omega⟩, ⟨by decide +kernel, by rw [jma_nd]; omega⟩, fun j hj => absurd (jma_nm ▸ hj) (Nat.not_lt_zero _), fun j hj => absurd (jma_nd ▸ hj) (Nat.not_lt_zero _), Or.inl (by decide +kernel), Or.inl (by decide +kernel), ⟨7, by decide +kernel, by omega, by omega⟩, Or.inl (by decide +kernel), ?_, ?_, ⟨0, by decide +kernel, by omega, ?_⟩, fun j hj => absurd (jma_np ▸ hj) (Nat.not_lt_zero _)⟩
  · have e : ∀ r, r < 6 → jC jma_142 0 18 r = 0 := by decide +kernel
    exact fun r hr => Or.inl (e r hr)
  · have e : ∀ r, r < 5 → jC jma_142 0 18 r = 0 := by decide +kernel
    exact fun r _ hr => e r hr
  · have e : ∀ r, r < 6 → jC jma_142 0 18 r = 0 := by decide +kernel
    exact fun r hr => Or.inl (e r hr)
theorem jm_A0 : jz_A (jz_np jma_142 0) (jz_nm jma_142 0) (jA jma_142) := ⟨⟨0, 0, by decide +kernel, by decide +kernel, by omega, by omega, fun _ => rfl⟩, fun p hp => absurd (jma_np ▸ hp) (Nat.not_lt_zero _)⟩
theorem jm_W0 : jz_W jma_142 0 := ⟨by decide +kernel, by omega, jm_R0, jm_A0⟩
theorem jm_G0 : jz_G jma_142 0 (jA jma_142) := ⟨jm_A0, 0, by decide +kernel, by omega, by decide +kernel, fun j hj => absurd hj (Nat.not_lt_zero _)⟩
theorem jy_R0 : jy_R jka_303 0 jma_142 0 := by
  refine ⟨by decide +kernel, by decide +kernel, by decide +kernel, fun j hj => absurd (jma_nm ▸ hj) (Nat.not_lt_zero _), fun j hj => absurd (jma_np ▸ hj) (Nat.not_lt_zero _), fun j hj => absurd (jma_nd ▸ hj) (Nat.not_lt_zero _), by decide +kernel, fun z => absurd (by decide +kernel) z, by decide +kernel, by decide +kernel, by decide +kernel, by decide +kernel, fun w hw => ⟨0, ?_⟩⟩
  have e1 : ∀ w, w < 6 → jh_I jka_303 26 0 w = nI 0 := by decide +kernel
  have e2 : ∀ w, w < 6 → jh_I jka_303 27 0 w = nI (0 + jy_rn jma_142 0 w) := by decide +kernel
  have e3 : ∀ w, w < 6 → 0 + jy_rn jma_142 0 w ≤ 1700 := by decide +kernel
  have e4 : ∀ w, w < 6 → jC jma_142 0 18 w = 0 := by decide +kernel
  exact ⟨e1 w hw, e2 w hw, e3 w hw, fun z => absurd (e4 w hw) z⟩
theorem jy_A0 : jy_A jka_303 0 0 (jA jma_142) := by
  have e1 : ∀ p, p < 5 → jh_I jka_303 32 0 p = jA jma_142 (2 + p) := by decide +kernel
  have e2 : ∀ d, d < 12 → jh_I jka_303 34 0 d = jA jma_142 (12 + d) ∧ jh_I jka_303 35 0 d = jA jma_142 (24 + d) ∧ jh_I jka_303 36 0 d = (jA jma_142 36 >>> (nI d &&& 31)) &&& 1 := by decide +kernel
  exact ⟨by decide +kernel, by decide +kernel, by decide +kernel, fun p hp => ⟨e1 p hp, fun z => absurd (jka_np ▸ z) (Nat.not_lt_zero _)⟩, e2⟩
set_option maxRecDepth 100000 in
theorem jz_Wo0 : jz_Wo jka_303 := by
  have e : ∀ i, i < 29 → jh_L jka_303 17 0 i = jy_key (jy_words.getD i []) := by decide +kernel
  exact e
theorem jz_Rel0 : jz_Rel jka_303 jma_142 := by
  refine ⟨0, 0, ⟨jm_W0, jm_G0, by omega, by decide +kernel, by decide +kernel, jy_R0, jy_A0, ?_⟩, ⟨0, by decide +kernel, by decide +kernel, by omega, fun j hj => absurd hj (Nat.not_lt_zero _)⟩, ⟨by decide +kernel, by decide +kernel⟩, ⟨0, by omega, by decide +kernel, by decide +kernel, fun j hj => absurd hj (Nat.not_lt_zero _)⟩, ⟨0, by omega, by decide +kernel, by decide +kernel⟩, ⟨0, by omega, by decide +kernel, by decide +kernel, fun j hj => absurd hj (Nat.not_lt_zero _)⟩, ?_, ?_, jz_Wo0⟩
  · have e : (jA jma_142 0).toNatClampNeg = 0 := by decide +kernel
    exact fun j hj => absurd (e ▸ hj) (Nat.not_lt_zero _)
  · have e1 : ∀ i, i < 3 → jh_I jka_303 62 0 i = jh_I jma_142 122 0 i := by decide +kernel
    have e2 : ∀ i, i < 3 → jh_I jma_142 122 0 i = 0 := by decide +kernel
    exact fun i hi => ⟨e1 i hi, Or.inl (e2 i hi)⟩
  · refine ⟨0, 0, by omega, by decide +kernel, by decide +kernel, by decide +kernel, by decide +kernel, fun _ => jA jma_142, rfl, fun j hj => absurd hj (Nat.not_lt_zero _), fun j _ hj => absurd hj (Nat.not_lt_zero _), fun _ _ => jm_G0, fun _ _ _ _ => rfl, fun j hj => absurd hj (Nat.not_lt_zero _)⟩
