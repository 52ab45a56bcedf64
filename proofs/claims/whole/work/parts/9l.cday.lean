/-- what a due's line may change in the class, its object i told of -/
def jCe (i : Nat) (h h' : jx_H) : Prop := (∀ a b, a ≠ 9 → a ≠ 6 → ¬ (a = 2 ∧ b = i) → jh_I h' a b = jh_I h a b) ∧ (∀ a b, a ≠ 9 → jh_L h' a b = jh_L h a b) ∧ h'.2.2 = h.2.2 ∧ (∀ f, f < 7 → jh_I h' 9 0 f = jh_I h 9 0 f) ∧ (∀ f, f < 7 → jh_I h' 6 0 f = jh_I h 6 0 f)
theorem jCe_r (i : Nat) (h : jx_H) : jCe i h h := ⟨fun _ _ _ _ _ => rfl, fun _ _ _ => rfl, rfl, fun _ _ => rfl, fun _ _ => rfl⟩
theorem jCe_f {i : Nat} {a b c : jx_H} (f : jCe i a b) (g : jCf b c) : jCe i a c := ⟨fun x y z1 z2 z3 => (g.1 x y z1 z2).trans (f.1 x y z1 z2 z3), fun x y z => (g.2.1 x y z).trans (f.2.1 x y z), g.2.2.1.trans f.2.2.1, fun x z => (g.2.2.2.1 x z).trans (f.2.2.2.1 x z), fun x z => (g.2.2.2.2 x z).trans (f.2.2.2.2 x z)⟩
theorem jCe_t {i : Nat} {a b c : jx_H} (f : jCe i a b) (g : jCe i b c) : jCe i a c := ⟨fun x y z1 z2 z3 => (g.1 x y z1 z2 z3).trans (f.1 x y z1 z2 z3), fun x y z => (g.2.1 x y z).trans (f.2.1 x y z), g.2.2.1.trans f.2.2.1, fun x z => (g.2.2.2.1 x z).trans (f.2.2.2.1 x z), fun x z => (g.2.2.2.2 x z).trans (f.2.2.2.2 x z)⟩
theorem jCe_s {i : Nat} {a b : jx_H} {F : Nat → Int32} (f : jCe i a b) : jCe i a (ju_I b 2 i F) := ⟨fun x y z1 z2 z3 => (if_neg z3).trans (f.1 x y z1 z2 z3), f.2.1, f.2.2.1, f.2.2.2.1, f.2.2.2.2⟩
theorem jCF_e {ρ i : Nat} {h0 h h' : jx_H} (f : jCF ρ h0 h) (h1 : 12 * ρ ≤ i) (h2 : i < 12 * ρ + 12) (g : jCe i h h') : jCF ρ h0 h' := ⟨fun a b z1 z2 z3 z4 => (g.1 a b z1 z2 (fun y => z4 ⟨y.1, by omega, by omega⟩)).trans (f.1 a b z1 z2 z3 z4), fun a b z1 z2 z3 z4 => (g.2.1 a b z1).trans (f.2.1 a b z1 z2 z3 z4), g.2.2.1.trans f.2.2.1, fun x z => (g.2.2.2.1 x z).trans (f.2.2.2 x z)⟩
set_option maxHeartbeats 800000 in
set_option maxRecDepth 100000 in
theorem ev_dueDay {d : Nat} {h : jx_H} {Q : Option jx_V → jx_H → Prop} {B : Nat → Int32} {sz T t ρ i n0 nd : Nat} {W : Nat → List Nat} (z : jTS h B sz T t) (hρ : jh_M h 6 0 4 = ρ + 1) (h70 : jh_I h 7 ρ 0 = nI n0) (hW : jnW W n0) (hr : ∀ j, j < n0 → jh_L h 28 0 j = jy_key (W j)) (hn : n0 ≤ 6) (h75 : jh_I h 7 ρ 5 = nI nd) (hnd : nd < 12) (kg : jT_K B sz t = 115 → jT_K B sz (t + 1) = 2 → 1 ≤ jT_v B sz (jT_p B sz (t + 1)) → jT_v B sz (jT_p B sz (t + 1)) ≤ 31 → jT_K B sz (t + 2) = 116 → jT_K B sz (t + 3) = 3 → ∀ m, jnF W (jT_wd B sz (jT_p B sz (t + 3))) n0 0 = some m → ∀ l t', (jT_K B sz (t + 4) = 117 ∧ l = 1 ∧ t' = t + 5 ∨ ¬ jT_K B sz (t + 4) = 117 ∧ l = 0 ∧ t' = t + 4) → ∀ h', jCe i h h' → jh_I h' 2 i = upd (upd (upd (jh_I h 2 i) 3 (nI (jT_v B sz (jT_p B sz (t + 1))))) 4 (nI m)) 5 (nI l) → jTS h' B sz T t' → Q (some (jv_i 1)) (ju_I h' 7 ρ (upd (jh_I h' 7 ρ) 5 (nI (nd + 1))))) (q0 : ¬ jT_K B sz t = 115 → ∀ h', jCe i h h' → jh_I h' 6 0 8 = jX_kd (jT_K B sz t) → jh_I h' 6 0 9 = nI (jT_p B sz t) → Q (some (jv_i 0)) h') (q1 : jT_K B sz t = 115 → ¬ jT_K B sz (t + 1) = 2 → ∀ h', jCe i h h' → jh_I h' 6 0 8 = jX_kd (jT_K B sz (t + 1)) → jh_I h' 6 0 9 = nI (jT_p B sz (t + 1)) → Q (some (jv_i 0)) h') (q2 : jT_K B sz t = 115 → jT_K B sz (t + 1) = 2 → (jT_v B sz (jT_p B sz (t + 1)) < 1 ∨ 31 < jT_v B sz (jT_p B sz (t + 1))) → ∀ h', jCe i h h' → jh_I h' 6 0 8 = 4 → jh_I h' 6 0 9 = nI (jT_p B sz (t + 1)) → Q (some (jv_i 0)) h') (q3 : jT_K B sz t = 115 → jT_K B sz (t + 1) = 2 → 1 ≤ jT_v B sz (jT_p B sz (t + 1)) → jT_v B sz (jT_p B sz (t + 1)) ≤ 31 → ¬ jT_K B sz (t + 2) = 116 → ∀ h', jCe i h h' → jh_I h' 6 0 8 = jX_kd (jT_K B sz (t + 2)) → jh_I h' 6 0 9 = nI (jT_p B sz (t + 2)) → Q (some (jv_i 0)) h') (q4 : jT_K B sz t = 115 → jT_K B sz (t + 1) = 2 → 1 ≤ jT_v B sz (jT_p B sz (t + 1)) → jT_v B sz (jT_p B sz (t + 1)) ≤ 31 → jT_K B sz (t + 2) = 116 → ¬ jT_K B sz (t + 3) = 3 → ∀ h', jCe i h h' → jh_I h' 6 0 8 = jX_kd (jT_K B sz (t + 3)) → jh_I h' 6 0 9 = nI (jT_p B sz (t + 3)) → Q (some (jv_i 0)) h') (q5 : jT_K B sz t = 115 → jT_K B sz (t + 1) = 2 → 1 ≤ jT_v B sz (jT_p B sz (t + 1)) → jT_v B sz (jT_p B sz (t + 1)) ≤ 31 → jT_K B sz (t + 2) = 116 → jT_K B sz (t + 3) = 3 → jnF W (jT_wd B sz (jT_p B sz (t + 3))) n0 0 = none → ∀ h', jCe i h h' → jh_I h' 6 0 8 = 5 → jh_I h' 6 0 9 = nI (jT_p B sz (t + 3)) → Q (some (jv_i 0)) h')  : jx_Ev jm_Rdr_readDueDay (d + 6) 0 0 false 0 [jv_r 6 0, jv_r 2 i] h Q := by
  show jx_W (jm_Rdr_readDueDay, d + 6, 0, 0, false, 0, _) Q 0 0 0 [some (jv_r 6 0), some (jv_r 2 i)] [] _
  refine jr_aload rfl rfl ?_
  refine jr_ic rfl ?_
  refine jr_cv1 (mc' := 0) (ms' := 0) rfl jm_Rdr_want_n jm_Rdr_want_f rfl rfl rfl rfl rfl rfl rfl (Nat.zero_le _) (Nat.zero_le _) ?_
  refine ev_want (w := 115) z (by decide) (by decide) (fun k0 h1 g1 z1 => ?_) (fun k0 h9 r1 v1 v2 => ?_)
  · refine jr_if_eq rfl (fun z => absurd z (by decide)) (fun _ => ?_)
    refine jr_aload rfl rfl ?_
    refine jr_ic rfl ?_
    refine jr_ic rfl ?_
    refine jr_cv2 (mc' := 0) (ms' := 0) rfl jm_Rdr_wantNumber_n jm_Rdr_wantNumber_f rfl rfl rfl rfl rfl rfl rfl (Nat.zero_le _) (Nat.zero_le _) ?_
    refine ev_wantN (lo := 1) (hi := 31) (t := t + 1) (show jTS h1 B sz T (t + 1) from z1) (by decide) (by decide) (fun k1 r1a r1b h2 g2 z2 w2 => ?_) (fun k1 h9 r1 v1 v2 => ?_) (fun k1 r1a h9 r1 v1 v2 => ?_)
    · have E2 : jCe i h (ju_I h2 2 i (upd (jh_I h2 2 i) 3 (nI (jT_v B sz (jT_p B sz (t + 1)))))) := jCe_s (jCe_f (jCe_f (jCe_r i h) g1) g2)
      have R2 : jh_I (ju_I h2 2 i (upd (jh_I h2 2 i) 3 (nI (jT_v B sz (jT_p B sz (t + 1)))))) 2 i = upd (jh_I h 2 i) 3 (nI (jT_v B sz (jT_p B sz (t + 1)))) := by
        rw [jg_II, g2.1 2 i (by decide) (by decide), g1.1 2 i (by decide) (by decide)]
      refine jr_if_ne rfl (fun _ => ?_) (fun z => absurd z (by decide))
      refine jr_aload rfl rfl ?_
      refine jr_aload rfl rfl ?_
      refine jr_getI rfl rfl ?_
      rw [w2]
      refine jr_putI rfl rfl ?_
      refine jr_aload rfl rfl ?_
      refine jr_ic rfl ?_
      refine jr_cv1 (mc' := 0) (ms' := 0) rfl jm_Rdr_want_n jm_Rdr_want_f rfl rfl rfl rfl rfl rfl rfl (Nat.zero_le _) (Nat.zero_le _) ?_
      refine ev_want (w := 116) (t := t + 2) (h := ju_I h2 2 i (upd (jh_I h2 2 i) 3 (nI (jT_v B sz (jT_p B sz (t + 1)))))) (show jTS h2 B sz T (t + 2) from z2) (by decide) (by decide) (fun k2 h3 g3 z3 => ?_) (fun k2 h9 r1 v1 v2 => ?_)
      · have E3 : jCe i h h3 := jCe_f E2 g3
        have R3 : jh_I h3 2 i = upd (jh_I h 2 i) 3 (nI (jT_v B sz (jT_p B sz (t + 1)))) := (g3.1 2 i (by decide) (by decide)).trans R2
        have d3 : jh_M h3 6 0 4 = ρ + 1 := (congrFun (congrFun (congrFun (congrArg (·.1) E3.2.2.1) 6) 0) 4).trans hρ
        have n3 : jh_I h3 7 ρ 0 = nI n0 := (congrFun (E3.1 7 ρ (by decide) (by decide) (fun y => absurd y.1 (by decide))) 0).trans h70
        refine jr_if_eq rfl (fun z => absurd z (by decide)) (fun _ => ?_)
        refine jr_aload rfl rfl ?_
        refine jr_aload rfl rfl ?_
        refine jr_getR rfl rfl rfl rfl (Or.inl rfl) ?_
        refine jr_aload rfl rfl ?_
        refine jr_getM rfl rfl rfl rfl d3 ?_
        refine jr_getI rfl rfl ?_
        refine jr_ic rfl ?_
        rw [n3]
        refine jr_cv3 (mc' := 0) (ms' := 0) rfl jm_Rdr_wantKnownName_n jm_Rdr_wantKnownName_f rfl rfl rfl rfl rfl rfl rfl (Nat.zero_le _) (Nat.zero_le _) ?_
        refine ev_oldN_m (t := t + 3) (show jTS h3 B sz T (t + 3) from z3) hW (fun j hj => (congrFun (E3.2.1 28 0 (by decide)) j).trans (hr j hj)) hn (fun k3 m e3 h4 g4 z4 w4 => ?_) (fun k3 h9 r1 v1 v2 => ?_) (fun k3 e3 h9 r1 v1 v2 => ?_)
        · have E4 : jCe i h h4 := jCe_f E3 g4
          have R4 : jh_I h4 2 i = upd (jh_I h 2 i) 3 (nI (jT_v B sz (jT_p B sz (t + 1)))) := (g4.1 2 i (by decide) (by decide)).trans R3
          refine jr_if_ne rfl (fun _ => ?_) (fun z => absurd z (by decide))
          refine jr_aload rfl rfl ?_
          refine jr_aload rfl rfl ?_
          refine jr_getI rfl rfl ?_
          rw [w4]
          refine jr_putI rfl rfl ?_
          refine jr_aload rfl rfl ?_
          refine jr_aload rfl rfl ?_
          refine jr_getR rfl rfl rfl rfl (Or.inl rfl) ?_
          refine jr_getI rfl rfl ?_
          refine jr_ic rfl ?_
          refine jr_icmp_ne rfl (fun c39 => ?_) (fun c39 => ?_)
          · refine jr_ic rfl ?_
            refine jr_putZ rfl rfl (by first | exact Or.inl rfl | exact Or.inr rfl | assumption) ?_
            have E5 : jCe i h (ju_I (ju_I h4 2 i (upd (jh_I h4 2 i) 4 (nI m))) 2 i (upd (jh_I (ju_I h4 2 i (upd (jh_I h4 2 i) 4 (nI m))) 2 i) 5 0)) := jCe_s (jCe_s E4)
            have R5 : jh_I (ju_I (ju_I h4 2 i (upd (jh_I h4 2 i) 4 (nI m))) 2 i (upd (jh_I (ju_I h4 2 i (upd (jh_I h4 2 i) 4 (nI m))) 2 i) 5 0)) 2 i = upd (upd (upd (jh_I h 2 i) 3 (nI (jT_v B sz (jT_p B sz (t + 1))))) 4 (nI m)) 5 (nI 0) := by
              rw [jg_II, jg_II, R4]
              rfl
            have k4 : ¬ jT_K B sz (t + 4) = 117 := fun y => c39 ((show jh_I h4 9 0 8 = nI (jT_K B sz (t + 4)) from z4.2.1.2.1).trans (congrArg nI y))
            refine jr_aload rfl rfl ?_
            refine jr_getZ rfl rfl ?_
            rw [show jh_I (ju_I (ju_I h4 2 i (upd (jh_I h4 2 i) 4 (nI m))) 2 i (upd (jh_I (ju_I h4 2 i (upd (jh_I h4 2 i) 4 (nI m))) 2 i) 5 0)) 2 i 5 = 0 from by rw [jg_II, jg_us]]
            refine jr_if_eq rfl (fun _ => ?_) (fun z => absurd rfl z)
            refine jr_aload rfl rfl ?_
            refine jr_getM rfl rfl rfl rfl ((congrFun (congrFun (congrFun (congrArg (·.1) E5.2.2.1) 6) 0) 4).trans hρ) ?_
            refine jr_dup_r rfl ?_
            refine jr_getI rfl rfl ?_
            refine jr_ic rfl ?_
            refine jr_iadd rfl ?_
            rw [show jh_I (ju_I (ju_I h4 2 i (upd (jh_I h4 2 i) 4 (nI m))) 2 i (upd (jh_I (ju_I h4 2 i (upd (jh_I h4 2 i) 4 (nI m))) 2 i) 5 0)) 7 ρ 5 = nI nd from (congrFun (E5.1 7 ρ (by decide) (by decide) (fun y => absurd y.1 (by decide))) 5).trans h75, jn_S]
            refine jr_putI rfl rfl ?_
            refine jr_ic rfl ?_
            refine jr_zret rfl rfl rfl (Nat.zero_le _) (Nat.zero_le _) ?_
            exact kg k0 k1 r1a r1b k2 k3 m e3 0 (t + 4) (Or.inr ⟨k4, rfl, rfl⟩) _ E5 R5 (show jTS (ju_I (ju_I h4 2 i (upd (jh_I h4 2 i) 4 (nI m))) 2 i (upd (jh_I (ju_I h4 2 i (upd (jh_I h4 2 i) 4 (nI m))) 2 i) 5 0)) B sz T (t + 4) from z4)
          · refine jr_ic rfl ?_
            refine jr_goto rfl ?_
            refine jr_putZ rfl rfl (by first | exact Or.inl rfl | exact Or.inr rfl | assumption) ?_
            have E5 : jCe i h (ju_I (ju_I h4 2 i (upd (jh_I h4 2 i) 4 (nI m))) 2 i (upd (jh_I (ju_I h4 2 i (upd (jh_I h4 2 i) 4 (nI m))) 2 i) 5 1)) := jCe_s (jCe_s E4)
            have R5 : jh_I (ju_I (ju_I h4 2 i (upd (jh_I h4 2 i) 4 (nI m))) 2 i (upd (jh_I (ju_I h4 2 i (upd (jh_I h4 2 i) 4 (nI m))) 2 i) 5 1)) 2 i = upd (upd (upd (jh_I h 2 i) 3 (nI (jT_v B sz (jT_p B sz (t + 1))))) 4 (nI m)) 5 (nI 1) := by
              rw [jg_II, jg_II, R4]
              rfl
            have k4 : jT_K B sz (t + 4) = 117 := jn_eq ((show jh_I h4 9 0 8 = nI (jT_K B sz (t + 4)) from z4.2.1.2.1).symm.trans c39) (Nat.lt_trans (show jT_K B sz (t + 4) < 256 from jT_k_lt) (by decide)) (by decide)
            have hn1 := jT_next z4.1 z4.2.2 (show jT_K B sz (t + 4) ≠ 0 by omega)
            refine jr_aload rfl rfl ?_
            refine jr_getZ rfl rfl ?_
            rw [show jh_I (ju_I (ju_I h4 2 i (upd (jh_I h4 2 i) 4 (nI m))) 2 i (upd (jh_I (ju_I h4 2 i (upd (jh_I h4 2 i) 4 (nI m))) 2 i) 5 1)) 2 i 5 = 1 from by rw [jg_II, jg_us]]
            refine jr_if_eq rfl (fun z => absurd z (by decide)) (fun _ => ?_)
            refine jr_aload rfl rfl ?_
            refine jr_getR rfl rfl rfl rfl (Or.inl rfl) ?_
            refine jr_cv0 (mc' := 0) (ms' := 0) rfl jm_Tape_take_n jm_Tape_take_f rfl rfl rfl rfl rfl rfl rfl (Nat.zero_le _) (Nat.zero_le _) ?_
            refine ev_take (B := B) (sz := sz) (T := T) (t := t + 5) (h := (ju_I (ju_I h4 2 i (upd (jh_I h4 2 i) 4 (nI m))) 2 i (upd (jh_I (ju_I h4 2 i (upd (jh_I h4 2 i) 4 (nI m))) 2 i) 5 1))) z4.1 z4.2.1.1 hn1 (fun h6 g6 c6 => ?_)
            refine jr_aload rfl rfl ?_
            refine jr_getM rfl rfl rfl rfl ((congrFun (congrFun (congrFun (congrArg (·.1) (g6.2.2.1.trans E5.2.2.1)) 6) 0) 4).trans hρ) ?_
            refine jr_dup_r rfl ?_
            refine jr_getI rfl rfl ?_
            refine jr_ic rfl ?_
            skip
            refine jr_iadd rfl ?_
            rw [show jh_I h6 7 ρ 5 = nI nd from (congrFun ((g6.1 7 ρ (by decide)).trans (E5.1 7 ρ (by decide) (by decide) (fun y => absurd y.1 (by decide)))) 5).trans h75, jn_S]
            refine jr_putI rfl rfl ?_
            refine jr_ic rfl ?_
            refine jr_zret rfl rfl rfl (Nat.zero_le _) (Nat.zero_le _) ?_
            exact kg k0 k1 r1a r1b k2 k3 m e3 1 (t + 5) (Or.inl ⟨k4, rfl, rfl⟩) h6 (jCe_f E5 (jCf_G g6)) ((g6.1 2 i (by decide)).trans R5) (jTS_take (show jTS (ju_I (ju_I h4 2 i (upd (jh_I h4 2 i) 4 (nI m))) 2 i (upd (jh_I (ju_I h4 2 i (upd (jh_I h4 2 i) 4 (nI m))) 2 i) 5 1)) B sz T (t + 4) from z4) g6 c6 hn1)
        · refine jr_if_ne rfl (fun z => absurd (by decide) z) (fun _ => ?_)
          refine jr_ic rfl ?_
          refine jr_zret rfl rfl rfl (Nat.zero_le _) (Nat.zero_le _) ?_
          exact q4 k0 k1 r1a r1b k2 k3 h9 (jCe_f E3 r1) v1 v2
        · refine jr_if_ne rfl (fun z => absurd (by decide) z) (fun _ => ?_)
          refine jr_ic rfl ?_
          refine jr_zret rfl rfl rfl (Nat.zero_le _) (Nat.zero_le _) ?_
          exact q5 k0 k1 r1a r1b k2 k3 e3 h9 (jCe_f E3 r1) v1 v2
      · refine jr_if_eq rfl (fun _ => ?_) (fun z => absurd (by decide) z)
        refine jr_ic rfl ?_
        refine jr_zret rfl rfl rfl (Nat.zero_le _) (Nat.zero_le _) ?_
        exact q3 k0 k1 r1a r1b k2 h9 (jCe_f E2 r1) v1 v2
    · refine jr_if_ne rfl (fun z => absurd (by decide) z) (fun _ => ?_)
      refine jr_ic rfl ?_
      refine jr_zret rfl rfl rfl (Nat.zero_le _) (Nat.zero_le _) ?_
      exact q1 k0 k1 h9 (jCe_f (jCe_f (jCe_r i h) g1) r1) v1 v2
    · refine jr_if_ne rfl (fun z => absurd (by decide) z) (fun _ => ?_)
      refine jr_ic rfl ?_
      refine jr_zret rfl rfl rfl (Nat.zero_le _) (Nat.zero_le _) ?_
      exact q2 k0 k1 r1a h9 (jCe_f (jCe_f (jCe_r i h) g1) r1) v1 v2
  · refine jr_if_eq rfl (fun _ => ?_) (fun z => absurd (by decide) z)
    refine jr_ic rfl ?_
    refine jr_zret rfl rfl rfl (Nat.zero_le _) (Nat.zero_le _) ?_
    exact q0 k0 h9 (jCe_f (jCe_r i h) r1) v1 v2

