theorem jo_n {o : Option Nat} {n : Nat} (h : ∀ j, o = some j → j < n) (hn : n < 1000) : jo_i o = -1 ↔ o = none := by
  cases o with
  | none => exact ⟨fun _ => rfl, fun _ => rfl⟩
  | some j =>
    have := h j rfl
    exact ⟨fun z => absurd z (jl_m1 (by omega)), fun z => by cases z⟩
/-- what a step over a line may change in the class -/
def jCf (h h' : jx_H) : Prop := (∀ a b, a ≠ 9 → a ≠ 6 → jh_I h' a b = jh_I h a b) ∧ (∀ a b, a ≠ 9 → jh_L h' a b = jh_L h a b) ∧ h'.2.2 = h.2.2 ∧ (∀ f, f < 7 → jh_I h' 9 0 f = jh_I h 9 0 f) ∧ (∀ f, f < 7 → jh_I h' 6 0 f = jh_I h 6 0 f)
theorem jCf_r (h : jx_H) : jCf h h := ⟨fun _ _ _ _ => rfl, fun _ _ _ => rfl, rfl, fun _ _ => rfl, fun _ _ => rfl⟩
theorem jCf_t {a b c : jx_H} (f : jCf a b) (g : jCf b c) : jCf a c := ⟨fun x y z1 z2 => (g.1 x y z1 z2).trans (f.1 x y z1 z2), fun x y z => (g.2.1 x y z).trans (f.2.1 x y z), g.2.2.1.trans f.2.2.1, fun x z => (g.2.2.2.1 x z).trans (f.2.2.2.1 x z), fun x z => (g.2.2.2.2 x z).trans (f.2.2.2.2 x z)⟩
theorem jCf_G {h h' : jx_H} (g : jT_G h h') : jCf h h' := ⟨fun a b z _ => g.1 a b z, g.2.1, g.2.2.1, g.2.2.2, fun f _ => congrFun (g.1 6 0 (by decide)) f⟩
theorem jCf_ft {h h' : jx_H} {kd : Int32} {pl : Nat} (g : jR_ft h h' kd pl) : jCf h h' := ⟨fun a b _ z => g.1 a b z, fun a b _ => congrFun (congrFun (congrArg (·.1) g.2.1) a) b, congrArg (·.2) g.2.1, fun f _ => congrFun (g.1 9 0 (by decide)) f, fun f z => g.2.2.1 f (by omega) (by omega)⟩
theorem jTS_v {h : jx_H} {B : Nat → Int32} {sz T t : Nat} {x : Int32} (z : jTS h B sz T t) : jTS (ju_I h 6 0 (upd (jh_I h 6 0) 7 x)) B sz T t := z
theorem jCf_v {h : jx_H} {x : Int32} : jCf h (ju_I h 6 0 (upd (jh_I h 6 0) 7 x)) := ⟨fun a b _ z => if_neg (fun y => z y.1), fun _ _ _ => rfl, rfl, fun _ _ => rfl, fun f hf => (jg_un (by omega) : upd (jh_I h 6 0) 7 x f = _)⟩
set_option maxHeartbeats 800000 in
set_option maxRecDepth 100000 in
theorem ev_want {d : Nat} {h : jx_H} {Q : Option jx_V → jx_H → Prop} {B : Nat → Int32} {sz T t : Nat} {w : Nat} (z : jTS h B sz T t) (hw : 0 < w) (hw2 : w < 256) (k1 : jT_K B sz t = w → ∀ h', jCf h h' → jTS h' B sz T (t + 1) → Q (some (jv_i 1)) h') (k2 : ¬ jT_K B sz t = w → ∀ h', jCf h h' → jh_I h' 6 0 8 = jX_kd (jT_K B sz t) → jh_I h' 6 0 9 = nI (jT_p B sz t) → Q (some (jv_i 0)) h')  : jx_Ev jm_Rdr_want (d + 3) 0 0 false 0 [jv_r 6 0, jv_i (nI w)] h Q := by
  show jx_W (jm_Rdr_want, d + 3, 0, 0, false, 0, _) Q 0 0 0 [some (jv_r 6 0), some (jv_i (nI w))] [] _
  have hkl : jT_K B sz t < 256 := jT_k_lt
  have hk : jh_I h 9 0 8 = nI (jT_K B sz t) := z.2.1.2.1
  refine jr_aload rfl rfl ?_
  refine jr_getR rfl rfl rfl rfl (Or.inl rfl) ?_
  refine jr_getI rfl rfl ?_
  refine jr_iload rfl rfl ?_
  refine jr_icmp_eq rfl (fun c4 => ?_) (fun c4 => ?_)
  · refine jr_aload rfl rfl ?_
    refine jr_getR rfl rfl rfl rfl (Or.inl rfl) ?_
    refine jr_cv0 (mc' := 0) (ms' := 0) rfl jm_Tape_take_n jm_Tape_take_f rfl rfl rfl rfl rfl rfl rfl (Nat.zero_le _) (Nat.zero_le _) ?_
    have q : jT_K B sz t = w := jn_eq (hk.symm.trans c4) (by omega) (by omega)
    have hn := jT_next z.1 z.2.2 (by omega)
    refine ev_take (B := B) (sz := sz) (T := T) (t := t + 1) z.1 z.2.1.1 (jT_next z.1 z.2.2 (by omega)) (fun h1 g1 c1 => ?_)
    refine jr_ic rfl ?_
    refine jr_zret rfl rfl rfl (Nat.zero_le _) (Nat.zero_le _) ?_
    exact k1 q h1 (jCf_G g1) (jTS_take z g1 c1 hn)
  · refine jr_aload rfl rfl ?_
    refine jr_ic rfl ?_
    refine jr_cv1 (mc' := 0) (ms' := 0) rfl jm_Rdr_refuse_n jm_Rdr_refuse_f rfl rfl rfl rfl rfl rfl rfl (Nat.zero_le _) (Nat.zero_le _) ?_
    refine ev_refuse (B := B) (sz := sz) (t := t) z.2.1 (fun h1 g1 => ?_)
    refine jr_zret rfl rfl rfl (Nat.zero_le _) (Nat.zero_le _) ?_
    exact k2 (fun q => c4 (hk.trans (congrArg nI q))) h1 (jCf_ft g1) g1.2.2.2.1 g1.2.2.2.2

set_option maxHeartbeats 800000 in
set_option maxRecDepth 100000 in
theorem ev_wantN {d : Nat} {h : jx_H} {Q : Option jx_V → jx_H → Prop} {B : Nat → Int32} {sz T t : Nat} {lo hi : Nat} (z : jTS h B sz T t) (hlo : lo < 1000) (hhi : hi < 1000) (k1 : jT_K B sz t = 2 → lo ≤ jT_v B sz (jT_p B sz t) → jT_v B sz (jT_p B sz t) ≤ hi → ∀ h', jCf h h' → jTS h' B sz T (t + 1) → jh_I h' 6 0 7 = nI (jT_v B sz (jT_p B sz t)) → Q (some (jv_i 1)) h') (k2 : ¬ jT_K B sz t = 2 → ∀ h', jCf h h' → jh_I h' 6 0 8 = jX_kd (jT_K B sz t) → jh_I h' 6 0 9 = nI (jT_p B sz t) → Q (some (jv_i 0)) h') (k3 : jT_K B sz t = 2 → (jT_v B sz (jT_p B sz t) < lo ∨ hi < jT_v B sz (jT_p B sz t)) → ∀ h', jCf h h' → jh_I h' 6 0 8 = 4 → jh_I h' 6 0 9 = nI (jT_p B sz t) → Q (some (jv_i 0)) h')  : jx_Ev jm_Rdr_wantNumber (d + 3) 0 0 false 0 [jv_r 6 0, jv_i (nI lo), jv_i (nI hi)] h Q := by
  show jx_W (jm_Rdr_wantNumber, d + 3, 0, 0, false, 0, _) Q 0 0 0 [some (jv_r 6 0), some (jv_i (nI lo)), some (jv_i (nI hi))] [] _
  have hkl : jT_K B sz t < 256 := jT_k_lt
  have hk : jh_I h 9 0 8 = nI (jT_K B sz t) := z.2.1.2.1
  refine jr_aload rfl rfl ?_
  refine jr_getR rfl rfl rfl rfl (Or.inl rfl) ?_
  refine jr_getI rfl rfl ?_
  refine jr_ic rfl ?_
  refine jr_icmp_eq rfl (fun c4 => ?_) (fun c4 => ?_)
  · have q : jT_K B sz t = 2 := jn_eq (hk.symm.trans c4) (by omega) (by decide)
    have hvl := jT_v_lt (B := B) (sz := sz) (t := t) q
    have hv : jh_I h 9 0 10 = nI (jT_v B sz (jT_p B sz t)) := z.2.1.2.2.2.1 q
    refine jr_aload rfl rfl ?_
    refine jr_getR rfl rfl rfl rfl (Or.inl rfl) ?_
    refine jr_getI rfl rfl ?_
    refine jr_iload rfl rfl ?_
    rw [hv]
    refine jr_icmp_lt rfl (fun c13 => ?_) (fun c13 => ?_)
    · refine jr_aload rfl rfl ?_
      refine jr_ic rfl ?_
      refine jr_cv1 (mc' := 0) (ms' := 0) rfl jm_Rdr_refuse_n jm_Rdr_refuse_f rfl rfl rfl rfl rfl rfl rfl (Nat.zero_le _) (Nat.zero_le _) ?_
      refine ev_refuse (B := B) (sz := sz) (t := t) z.2.1 (fun h1 g1 => ?_)
      refine jr_zret rfl rfl rfl (Nat.zero_le _) (Nat.zero_le _) ?_
      exact k3 q (Or.inl (jn_lt (show nI (jT_v B sz (jT_p B sz t)) < nI lo from c13) (by omega) (by omega))) h1 (jCf_ft g1) (g1.2.2.2.1.trans (if_neg (by omega))) g1.2.2.2.2
    · refine jr_aload rfl rfl ?_
      refine jr_getR rfl rfl rfl rfl (Or.inl rfl) ?_
      refine jr_getI rfl rfl ?_
      refine jr_iload rfl rfl ?_
      rw [hv]
      refine jr_icmp_le rfl (fun c18 => ?_) (fun c18 => ?_)
      · refine jr_aload rfl rfl ?_
        refine jr_aload rfl rfl ?_
        refine jr_getR rfl rfl rfl rfl (Or.inl rfl) ?_
        refine jr_getI rfl rfl ?_
        rw [hv]
        refine jr_putI rfl rfl ?_
        refine jr_aload rfl rfl ?_
        refine jr_getR rfl rfl rfl rfl (Or.inl rfl) ?_
        refine jr_cv0 (mc' := 0) (ms' := 0) rfl jm_Tape_take_n jm_Tape_take_f rfl rfl rfl rfl rfl rfl rfl (Nat.zero_le _) (Nat.zero_le _) ?_
        have hn := jT_next z.1 z.2.2 (by omega)
        refine ev_take (B := B) (sz := sz) (T := T) (t := t + 1) (h := ju_I h 6 0 (upd (jh_I h 6 0) 7 (nI (jT_v B sz (jT_p B sz t))))) z.1 z.2.1.1 hn (fun h1 g1 c1 => ?_)
        refine jr_ic rfl ?_
        refine jr_zret rfl rfl rfl (Nat.zero_le _) (Nat.zero_le _) ?_
        have a1 := jn_nlt (show ¬ nI (jT_v B sz (jT_p B sz t)) < nI lo from c13) (by omega) (by omega)
        have a2 := jn_le (show nI (jT_v B sz (jT_p B sz t)) ≤ nI hi from c18) (by omega) (by omega)
        exact k1 q a1 a2 h1 (jCf_t jCf_v (jCf_G g1)) (jTS_take (jTS_v z) g1 c1 hn) ((congrFun (g1.1 6 0 (by decide)) 7).trans (show upd (jh_I h 6 0) 7 (nI (jT_v B sz (jT_p B sz t))) 7 = _ from jg_us _ _ _))
      · refine jr_aload rfl rfl ?_
        refine jr_ic rfl ?_
        refine jr_cv1 (mc' := 0) (ms' := 0) rfl jm_Rdr_refuse_n jm_Rdr_refuse_f rfl rfl rfl rfl rfl rfl rfl (Nat.zero_le _) (Nat.zero_le _) ?_
        refine ev_refuse (B := B) (sz := sz) (t := t) z.2.1 (fun h1 g1 => ?_)
        refine jr_zret rfl rfl rfl (Nat.zero_le _) (Nat.zero_le _) ?_
        exact k3 q (Or.inr (jn_nle (show ¬ nI (jT_v B sz (jT_p B sz t)) ≤ nI hi from c18) (by omega) (by omega))) h1 (jCf_ft g1) (g1.2.2.2.1.trans (if_neg (by omega))) g1.2.2.2.2
  · refine jr_aload rfl rfl ?_
    refine jr_ic rfl ?_
    refine jr_cv1 (mc' := 0) (ms' := 0) rfl jm_Rdr_refuse_n jm_Rdr_refuse_f rfl rfl rfl rfl rfl rfl rfl (Nat.zero_le _) (Nat.zero_le _) ?_
    refine ev_refuse (B := B) (sz := sz) (t := t) z.2.1 (fun h1 g1 => ?_)
    refine jr_zret rfl rfl rfl (Nat.zero_le _) (Nat.zero_le _) ?_
    exact k2 (fun q => c4 (hk.trans (congrArg nI q))) h1 (jCf_ft g1) g1.2.2.2.1 g1.2.2.2.2

set_option maxHeartbeats 800000 in
set_option maxRecDepth 100000 in
theorem ev_newN_m {d : Nat} {h : jx_H} {Q : Option jx_V → jx_H → Prop} {B : Nat → Int32} {sz T t : Nat} {n : Nat} {W : Nat → List Nat} (z : jTS h B sz T t) (hW : jnW W n) (hr : ∀ j, j < n → jh_L h 28 0 j = jy_key (W j)) (hn : n < 6) (k1 : jT_K B sz t = 3 → jnF W (jT_wd B sz (jT_p B sz t)) n 0 = none → ∀ h', jCf (ju_L h 28 0 (vp_updL (jh_L h 28 0) n (jy_key (jT_wd B sz (jT_p B sz t))))) h' → jTS h' B sz T (t + 1) → Q (some (jv_i 1)) h') (k2 : ¬ jT_K B sz t = 3 → ∀ h', jCf h h' → jh_I h' 6 0 8 = jX_kd (jT_K B sz t) → jh_I h' 6 0 9 = nI (jT_p B sz t) → Q (some (jv_i 0)) h') (k3 : jT_K B sz t = 3 → (∃ j, jnF W (jT_wd B sz (jT_p B sz t)) n 0 = some j) → ∀ h', jCf h h' → jh_I h' 6 0 8 = 3 → jh_I h' 6 0 9 = nI (jT_p B sz t) → Q (some (jv_i 0)) h')  : jx_Ev jm_Rdr_wantNewName (d + 4) 0 0 false 0 [jv_r 6 0, jv_r 28 0, jv_i (nI n)] h Q := by
  show jx_W (jm_Rdr_wantNewName, d + 4, 0, 0, false, 0, _) Q 0 0 0 [some (jv_r 6 0), some (jv_r 28 0), some (jv_i (nI n))] [] _
  have hkl : jT_K B sz t < 256 := jT_k_lt
  have hk : jh_I h 9 0 8 = nI (jT_K B sz t) := z.2.1.2.1
  refine jr_aload rfl rfl ?_
  refine jr_getR rfl rfl rfl rfl (Or.inl rfl) ?_
  refine jr_getI rfl rfl ?_
  refine jr_ic rfl ?_
  refine jr_icmp_ne rfl (fun c4 => ?_) (fun c4 => ?_)
  · refine jr_aload rfl rfl ?_
    refine jr_ic rfl ?_
    refine jr_cv1 (mc' := 0) (ms' := 0) rfl jm_Rdr_refuse_n jm_Rdr_refuse_f rfl rfl rfl rfl rfl rfl rfl (Nat.zero_le _) (Nat.zero_le _) ?_
    refine ev_refuse (B := B) (sz := sz) (t := t) z.2.1 (fun h1 g1 => ?_)
    refine jr_zret rfl rfl rfl (Nat.zero_le _) (Nat.zero_le _) ?_
    exact k2 (fun q => c4 (hk.trans (congrArg nI q))) h1 (jCf_ft g1) g1.2.2.2.1 g1.2.2.2.2
  · refine jr_iload rfl rfl ?_
    refine jr_if_lt rfl (fun z => absurd z (nI_pos (by omega))) (fun _ => ?_)
    refine jr_iload rfl rfl ?_
    refine jr_aload rfl rfl ?_
    refine jr_alen (so := 4) (len := 6) rfl rfl rfl rfl ?_
    refine jr_icmp_lt rfl (fun _ => ?_) (fun z => absurd (nI_lt (b := 6) (by omega) (by decide)) z)
    have q : jT_K B sz t = 3 := jn_eq (hk.symm.trans c4) (by omega) (by decide)
    have jb : ∀ j, jnF W (jT_wd B sz (jT_p B sz t)) n 0 = some j → j < n := fun j e => by have := (jnF_lt n 0 j e).2.1; omega
    refine jr_aload rfl rfl ?_
    refine jr_aload rfl rfl ?_
    refine jr_iload rfl rfl ?_
    refine jr_cv2 (mc' := 0) (ms' := 0) rfl jm_Rdr_placeOfName_n jm_Rdr_placeOfName_f rfl rfl rfl rfl rfl rfl rfl (Nat.zero_le _) (Nat.zero_le _) ?_
    refine ev_place_m z q hW hr (by omega) ?_
    refine jr_ic rfl ?_
    refine jr_icmp_eq rfl (fun c20 => ?_) (fun c20 => ?_)
    · refine jr_aload rfl rfl ?_
      refine jr_iload rfl rfl ?_
      refine jr_aload rfl rfl ?_
      refine jr_getR rfl rfl rfl rfl (Or.inl rfl) ?_
      have hnm : jh_L h 9 0 11 = jy_key (jT_wd B sz (jT_p B sz t)) := z.2.1.2.2.2.2 q
      refine jr_getL rfl rfl ?_
      rw [hnm]
      refine jr_last (len := 6) rfl rfl rfl (by omega) ?_
      refine jr_aload rfl rfl ?_
      refine jr_getR rfl rfl rfl rfl (Or.inl rfl) ?_
      refine jr_cv0 (mc' := 0) (ms' := 0) rfl jm_Tape_take_n jm_Tape_take_f rfl rfl rfl rfl rfl rfl rfl (Nat.zero_le _) (Nat.zero_le _) ?_
      have hn1 := jT_next z.1 z.2.2 (by omega)
      refine ev_take (B := B) (sz := sz) (T := T) (t := t + 1) (h := ju_L h 28 0 (vp_updL (jh_L h 28 0) n (jy_key (jT_wd B sz (jT_p B sz t))))) z.1 z.2.1.1 hn1 (fun h1 g1 c1 => ?_)
      refine jr_ic rfl ?_
      refine jr_zret rfl rfl rfl (Nat.zero_le _) (Nat.zero_le _) ?_
      exact k1 q ((jo_n jb (by omega)).mp c20) h1 (jCf_G g1) (jTS_take (show jTS (ju_L h 28 0 _) B sz T t from z) g1 c1 hn1)
    · refine jr_aload rfl rfl ?_
      refine jr_ic rfl ?_
      refine jr_cv1 (mc' := 0) (ms' := 0) rfl jm_Rdr_refuse_n jm_Rdr_refuse_f rfl rfl rfl rfl rfl rfl rfl (Nat.zero_le _) (Nat.zero_le _) ?_
      refine ev_refuse (B := B) (sz := sz) (t := t) z.2.1 (fun h1 g1 => ?_)
      refine jr_zret rfl rfl rfl (Nat.zero_le _) (Nat.zero_le _) ?_
      exact k3 q (by
        cases e : jnF W (jT_wd B sz (jT_p B sz t)) n 0 with
        | none => exact absurd ((jo_n jb (by omega)).mpr e) c20
        | some j => exact ⟨j, rfl⟩) h1 (jCf_ft g1) (g1.2.2.2.1.trans (if_neg (by omega))) g1.2.2.2.2

set_option maxHeartbeats 800000 in
set_option maxRecDepth 100000 in
theorem ev_newN_p {d : Nat} {h : jx_H} {Q : Option jx_V → jx_H → Prop} {B : Nat → Int32} {sz T t : Nat} {n : Nat} {W : Nat → List Nat} (z : jTS h B sz T t) (hW : jnW W n) (hr : ∀ j, j < n → jh_L h 29 0 j = jy_key (W j)) (hn : n < 5) (k1 : jT_K B sz t = 3 → jnF W (jT_wd B sz (jT_p B sz t)) n 0 = none → ∀ h', jCf (ju_L h 29 0 (vp_updL (jh_L h 29 0) n (jy_key (jT_wd B sz (jT_p B sz t))))) h' → jTS h' B sz T (t + 1) → Q (some (jv_i 1)) h') (k2 : ¬ jT_K B sz t = 3 → ∀ h', jCf h h' → jh_I h' 6 0 8 = jX_kd (jT_K B sz t) → jh_I h' 6 0 9 = nI (jT_p B sz t) → Q (some (jv_i 0)) h') (k3 : jT_K B sz t = 3 → (∃ j, jnF W (jT_wd B sz (jT_p B sz t)) n 0 = some j) → ∀ h', jCf h h' → jh_I h' 6 0 8 = 3 → jh_I h' 6 0 9 = nI (jT_p B sz t) → Q (some (jv_i 0)) h')  : jx_Ev jm_Rdr_wantNewName (d + 4) 0 0 false 0 [jv_r 6 0, jv_r 29 0, jv_i (nI n)] h Q := by
  show jx_W (jm_Rdr_wantNewName, d + 4, 0, 0, false, 0, _) Q 0 0 0 [some (jv_r 6 0), some (jv_r 29 0), some (jv_i (nI n))] [] _
  have hkl : jT_K B sz t < 256 := jT_k_lt
  have hk : jh_I h 9 0 8 = nI (jT_K B sz t) := z.2.1.2.1
  refine jr_aload rfl rfl ?_
  refine jr_getR rfl rfl rfl rfl (Or.inl rfl) ?_
  refine jr_getI rfl rfl ?_
  refine jr_ic rfl ?_
  refine jr_icmp_ne rfl (fun c4 => ?_) (fun c4 => ?_)
  · refine jr_aload rfl rfl ?_
    refine jr_ic rfl ?_
    refine jr_cv1 (mc' := 0) (ms' := 0) rfl jm_Rdr_refuse_n jm_Rdr_refuse_f rfl rfl rfl rfl rfl rfl rfl (Nat.zero_le _) (Nat.zero_le _) ?_
    refine ev_refuse (B := B) (sz := sz) (t := t) z.2.1 (fun h1 g1 => ?_)
    refine jr_zret rfl rfl rfl (Nat.zero_le _) (Nat.zero_le _) ?_
    exact k2 (fun q => c4 (hk.trans (congrArg nI q))) h1 (jCf_ft g1) g1.2.2.2.1 g1.2.2.2.2
  · refine jr_iload rfl rfl ?_
    refine jr_if_lt rfl (fun z => absurd z (nI_pos (by omega))) (fun _ => ?_)
    refine jr_iload rfl rfl ?_
    refine jr_aload rfl rfl ?_
    refine jr_alen (so := 4) (len := 5) rfl rfl rfl rfl ?_
    refine jr_icmp_lt rfl (fun _ => ?_) (fun z => absurd (nI_lt (b := 5) (by omega) (by decide)) z)
    have q : jT_K B sz t = 3 := jn_eq (hk.symm.trans c4) (by omega) (by decide)
    have jb : ∀ j, jnF W (jT_wd B sz (jT_p B sz t)) n 0 = some j → j < n := fun j e => by have := (jnF_lt n 0 j e).2.1; omega
    refine jr_aload rfl rfl ?_
    refine jr_aload rfl rfl ?_
    refine jr_iload rfl rfl ?_
    refine jr_cv2 (mc' := 0) (ms' := 0) rfl jm_Rdr_placeOfName_n jm_Rdr_placeOfName_f rfl rfl rfl rfl rfl rfl rfl (Nat.zero_le _) (Nat.zero_le _) ?_
    refine ev_place_p z q hW hr (by omega) ?_
    refine jr_ic rfl ?_
    refine jr_icmp_eq rfl (fun c20 => ?_) (fun c20 => ?_)
    · refine jr_aload rfl rfl ?_
      refine jr_iload rfl rfl ?_
      refine jr_aload rfl rfl ?_
      refine jr_getR rfl rfl rfl rfl (Or.inl rfl) ?_
      have hnm : jh_L h 9 0 11 = jy_key (jT_wd B sz (jT_p B sz t)) := z.2.1.2.2.2.2 q
      refine jr_getL rfl rfl ?_
      rw [hnm]
      refine jr_last (len := 5) rfl rfl rfl (by omega) ?_
      refine jr_aload rfl rfl ?_
      refine jr_getR rfl rfl rfl rfl (Or.inl rfl) ?_
      refine jr_cv0 (mc' := 0) (ms' := 0) rfl jm_Tape_take_n jm_Tape_take_f rfl rfl rfl rfl rfl rfl rfl (Nat.zero_le _) (Nat.zero_le _) ?_
      have hn1 := jT_next z.1 z.2.2 (by omega)
      refine ev_take (B := B) (sz := sz) (T := T) (t := t + 1) (h := ju_L h 29 0 (vp_updL (jh_L h 29 0) n (jy_key (jT_wd B sz (jT_p B sz t))))) z.1 z.2.1.1 hn1 (fun h1 g1 c1 => ?_)
      refine jr_ic rfl ?_
      refine jr_zret rfl rfl rfl (Nat.zero_le _) (Nat.zero_le _) ?_
      exact k1 q ((jo_n jb (by omega)).mp c20) h1 (jCf_G g1) (jTS_take (show jTS (ju_L h 29 0 _) B sz T t from z) g1 c1 hn1)
    · refine jr_aload rfl rfl ?_
      refine jr_ic rfl ?_
      refine jr_cv1 (mc' := 0) (ms' := 0) rfl jm_Rdr_refuse_n jm_Rdr_refuse_f rfl rfl rfl rfl rfl rfl rfl (Nat.zero_le _) (Nat.zero_le _) ?_
      refine ev_refuse (B := B) (sz := sz) (t := t) z.2.1 (fun h1 g1 => ?_)
      refine jr_zret rfl rfl rfl (Nat.zero_le _) (Nat.zero_le _) ?_
      exact k3 q (by
        cases e : jnF W (jT_wd B sz (jT_p B sz t)) n 0 with
        | none => exact absurd ((jo_n jb (by omega)).mpr e) c20
        | some j => exact ⟨j, rfl⟩) h1 (jCf_ft g1) (g1.2.2.2.1.trans (if_neg (by omega))) g1.2.2.2.2

set_option maxHeartbeats 800000 in
set_option maxRecDepth 100000 in
theorem ev_newN_d {d : Nat} {h : jx_H} {Q : Option jx_V → jx_H → Prop} {B : Nat → Int32} {sz T t : Nat} {n : Nat} {W : Nat → List Nat} (z : jTS h B sz T t) (hW : jnW W n) (hr : ∀ j, j < n → jh_L h 30 0 j = jy_key (W j)) (hn : n < 12) (k1 : jT_K B sz t = 3 → jnF W (jT_wd B sz (jT_p B sz t)) n 0 = none → ∀ h', jCf (ju_L h 30 0 (vp_updL (jh_L h 30 0) n (jy_key (jT_wd B sz (jT_p B sz t))))) h' → jTS h' B sz T (t + 1) → Q (some (jv_i 1)) h') (k2 : ¬ jT_K B sz t = 3 → ∀ h', jCf h h' → jh_I h' 6 0 8 = jX_kd (jT_K B sz t) → jh_I h' 6 0 9 = nI (jT_p B sz t) → Q (some (jv_i 0)) h') (k3 : jT_K B sz t = 3 → (∃ j, jnF W (jT_wd B sz (jT_p B sz t)) n 0 = some j) → ∀ h', jCf h h' → jh_I h' 6 0 8 = 3 → jh_I h' 6 0 9 = nI (jT_p B sz t) → Q (some (jv_i 0)) h')  : jx_Ev jm_Rdr_wantNewName (d + 4) 0 0 false 0 [jv_r 6 0, jv_r 30 0, jv_i (nI n)] h Q := by
  show jx_W (jm_Rdr_wantNewName, d + 4, 0, 0, false, 0, _) Q 0 0 0 [some (jv_r 6 0), some (jv_r 30 0), some (jv_i (nI n))] [] _
  have hkl : jT_K B sz t < 256 := jT_k_lt
  have hk : jh_I h 9 0 8 = nI (jT_K B sz t) := z.2.1.2.1
  refine jr_aload rfl rfl ?_
  refine jr_getR rfl rfl rfl rfl (Or.inl rfl) ?_
  refine jr_getI rfl rfl ?_
  refine jr_ic rfl ?_
  refine jr_icmp_ne rfl (fun c4 => ?_) (fun c4 => ?_)
  · refine jr_aload rfl rfl ?_
    refine jr_ic rfl ?_
    refine jr_cv1 (mc' := 0) (ms' := 0) rfl jm_Rdr_refuse_n jm_Rdr_refuse_f rfl rfl rfl rfl rfl rfl rfl (Nat.zero_le _) (Nat.zero_le _) ?_
    refine ev_refuse (B := B) (sz := sz) (t := t) z.2.1 (fun h1 g1 => ?_)
    refine jr_zret rfl rfl rfl (Nat.zero_le _) (Nat.zero_le _) ?_
    exact k2 (fun q => c4 (hk.trans (congrArg nI q))) h1 (jCf_ft g1) g1.2.2.2.1 g1.2.2.2.2
  · refine jr_iload rfl rfl ?_
    refine jr_if_lt rfl (fun z => absurd z (nI_pos (by omega))) (fun _ => ?_)
    refine jr_iload rfl rfl ?_
    refine jr_aload rfl rfl ?_
    refine jr_alen (so := 4) (len := 12) rfl rfl rfl rfl ?_
    refine jr_icmp_lt rfl (fun _ => ?_) (fun z => absurd (nI_lt (b := 12) (by omega) (by decide)) z)
    have q : jT_K B sz t = 3 := jn_eq (hk.symm.trans c4) (by omega) (by decide)
    have jb : ∀ j, jnF W (jT_wd B sz (jT_p B sz t)) n 0 = some j → j < n := fun j e => by have := (jnF_lt n 0 j e).2.1; omega
    refine jr_aload rfl rfl ?_
    refine jr_aload rfl rfl ?_
    refine jr_iload rfl rfl ?_
    refine jr_cv2 (mc' := 0) (ms' := 0) rfl jm_Rdr_placeOfName_n jm_Rdr_placeOfName_f rfl rfl rfl rfl rfl rfl rfl (Nat.zero_le _) (Nat.zero_le _) ?_
    refine ev_place_d z q hW hr (by omega) ?_
    refine jr_ic rfl ?_
    refine jr_icmp_eq rfl (fun c20 => ?_) (fun c20 => ?_)
    · refine jr_aload rfl rfl ?_
      refine jr_iload rfl rfl ?_
      refine jr_aload rfl rfl ?_
      refine jr_getR rfl rfl rfl rfl (Or.inl rfl) ?_
      have hnm : jh_L h 9 0 11 = jy_key (jT_wd B sz (jT_p B sz t)) := z.2.1.2.2.2.2 q
      refine jr_getL rfl rfl ?_
      rw [hnm]
      refine jr_last (len := 12) rfl rfl rfl (by omega) ?_
      refine jr_aload rfl rfl ?_
      refine jr_getR rfl rfl rfl rfl (Or.inl rfl) ?_
      refine jr_cv0 (mc' := 0) (ms' := 0) rfl jm_Tape_take_n jm_Tape_take_f rfl rfl rfl rfl rfl rfl rfl (Nat.zero_le _) (Nat.zero_le _) ?_
      have hn1 := jT_next z.1 z.2.2 (by omega)
      refine ev_take (B := B) (sz := sz) (T := T) (t := t + 1) (h := ju_L h 30 0 (vp_updL (jh_L h 30 0) n (jy_key (jT_wd B sz (jT_p B sz t))))) z.1 z.2.1.1 hn1 (fun h1 g1 c1 => ?_)
      refine jr_ic rfl ?_
      refine jr_zret rfl rfl rfl (Nat.zero_le _) (Nat.zero_le _) ?_
      exact k1 q ((jo_n jb (by omega)).mp c20) h1 (jCf_G g1) (jTS_take (show jTS (ju_L h 30 0 _) B sz T t from z) g1 c1 hn1)
    · refine jr_aload rfl rfl ?_
      refine jr_ic rfl ?_
      refine jr_cv1 (mc' := 0) (ms' := 0) rfl jm_Rdr_refuse_n jm_Rdr_refuse_f rfl rfl rfl rfl rfl rfl rfl (Nat.zero_le _) (Nat.zero_le _) ?_
      refine ev_refuse (B := B) (sz := sz) (t := t) z.2.1 (fun h1 g1 => ?_)
      refine jr_zret rfl rfl rfl (Nat.zero_le _) (Nat.zero_le _) ?_
      exact k3 q (by
        cases e : jnF W (jT_wd B sz (jT_p B sz t)) n 0 with
        | none => exact absurd ((jo_n jb (by omega)).mpr e) c20
        | some j => exact ⟨j, rfl⟩) h1 (jCf_ft g1) (g1.2.2.2.1.trans (if_neg (by omega))) g1.2.2.2.2

set_option maxHeartbeats 800000 in
set_option maxRecDepth 100000 in
theorem ev_oldN_m {d : Nat} {h : jx_H} {Q : Option jx_V → jx_H → Prop} {B : Nat → Int32} {sz T t : Nat} {n : Nat} {W : Nat → List Nat} (z : jTS h B sz T t) (hW : jnW W n) (hr : ∀ j, j < n → jh_L h 28 0 j = jy_key (W j)) (hn : n ≤ 6) (k1 : jT_K B sz t = 3 → ∀ j, jnF W (jT_wd B sz (jT_p B sz t)) n 0 = some j → ∀ h', jCf h h' → jTS h' B sz T (t + 1) → jh_I h' 6 0 7 = nI j → Q (some (jv_i 1)) h') (k2 : ¬ jT_K B sz t = 3 → ∀ h', jCf h h' → jh_I h' 6 0 8 = jX_kd (jT_K B sz t) → jh_I h' 6 0 9 = nI (jT_p B sz t) → Q (some (jv_i 0)) h') (k3 : jT_K B sz t = 3 → jnF W (jT_wd B sz (jT_p B sz t)) n 0 = none → ∀ h', jCf h h' → jh_I h' 6 0 8 = 5 → jh_I h' 6 0 9 = nI (jT_p B sz t) → Q (some (jv_i 0)) h')  : jx_Ev jm_Rdr_wantKnownName (d + 4) 0 0 false 0 [jv_r 6 0, jv_r 28 0, jv_i (nI n), jv_i (-1)] h Q := by
  show jx_W (jm_Rdr_wantKnownName, d + 4, 0, 0, false, 0, _) Q 0 0 0 [some (jv_r 6 0), some (jv_r 28 0), some (jv_i (nI n)), some (jv_i (-1))] [] _
  have hkl : jT_K B sz t < 256 := jT_k_lt
  have hk : jh_I h 9 0 8 = nI (jT_K B sz t) := z.2.1.2.1
  refine jr_aload rfl rfl ?_
  refine jr_getR rfl rfl rfl rfl (Or.inl rfl) ?_
  refine jr_getI rfl rfl ?_
  refine jr_ic rfl ?_
  refine jr_icmp_eq rfl (fun c4 => ?_) (fun c4 => ?_)
  · have q : jT_K B sz t = 3 := jn_eq (hk.symm.trans c4) (by omega) (by decide)
    have jb : ∀ j, jnF W (jT_wd B sz (jT_p B sz t)) n 0 = some j → j < n := fun j e => by have := (jnF_lt n 0 j e).2.1; omega
    refine jr_aload rfl rfl ?_
    refine jr_aload rfl rfl ?_
    refine jr_aload rfl rfl ?_
    refine jr_iload rfl rfl ?_
    refine jr_cv2 (mc' := 0) (ms' := 0) rfl jm_Rdr_placeOfName_n jm_Rdr_placeOfName_f rfl rfl rfl rfl rfl rfl rfl (Nat.zero_le _) (Nat.zero_le _) ?_
    refine ev_place_m z q hW hr (by omega) ?_
    refine jr_putI rfl rfl ?_
    refine jr_aload rfl rfl ?_
    refine jr_getI rfl rfl ?_
    refine jr_ic rfl ?_
    refine jr_icmp_ne rfl (fun c18 => ?_) (fun c18 => ?_)
    · refine jr_aload rfl rfl ?_
      refine jr_getI rfl rfl ?_
      refine jr_iload rfl rfl ?_
      refine jr_icmp_ne rfl (fun _ => ?_) (fun z => absurd z c18)
      refine jr_aload rfl rfl ?_
      refine jr_getR rfl rfl rfl rfl (Or.inl rfl) ?_
      refine jr_cv0 (mc' := 0) (ms' := 0) rfl jm_Tape_take_n jm_Tape_take_f rfl rfl rfl rfl rfl rfl rfl (Nat.zero_le _) (Nat.zero_le _) ?_
      have hn1 := jT_next z.1 z.2.2 (by omega)
      refine ev_take (B := B) (sz := sz) (T := T) (t := t + 1) (h := (ju_I h 6 0 (upd (jh_I h 6 0) 7 (jo_i (jnF W (jT_wd B sz (jT_p B sz t)) n 0))))) z.1 z.2.1.1 hn1 (fun h1 g1 c1 => ?_)
      refine jr_ic rfl ?_
      refine jr_zret rfl rfl rfl (Nat.zero_le _) (Nat.zero_le _) ?_
      cases e : jnF W (jT_wd B sz (jT_p B sz t)) n 0 with
      | none => exact absurd (show jo_i (jnF W (jT_wd B sz (jT_p B sz t)) n 0) = -1 by rw [e]; rfl) c18
      | some j =>
        have hj := jb j e
        exact k1 q j e h1 (jCf_t jCf_v (jCf_G g1)) (jTS_take (jTS_v z) g1 c1 hn1) ((congrFun (g1.1 6 0 (by decide)) 7).trans ((show upd (jh_I h 6 0) 7 (jo_i (jnF W (jT_wd B sz (jT_p B sz t)) n 0)) 7 = _ from jg_us _ _ _).trans (congrArg jo_i e)))
    · refine jr_aload rfl rfl ?_
      refine jr_ic rfl ?_
      refine jr_cv1 (mc' := 0) (ms' := 0) rfl jm_Rdr_refuse_n jm_Rdr_refuse_f rfl rfl rfl rfl rfl rfl rfl (Nat.zero_le _) (Nat.zero_le _) ?_
      refine ev_refuse (B := B) (sz := sz) (t := t) z.2.1 (fun h1 g1 => ?_)
      refine jr_zret rfl rfl rfl (Nat.zero_le _) (Nat.zero_le _) ?_
      exact k3 q ((jo_n jb (by omega)).mp c18) h1 (jCf_t jCf_v (jCf_ft g1)) (g1.2.2.2.1.trans (if_neg (by omega))) g1.2.2.2.2
  · refine jr_aload rfl rfl ?_
    refine jr_ic rfl ?_
    refine jr_cv1 (mc' := 0) (ms' := 0) rfl jm_Rdr_refuse_n jm_Rdr_refuse_f rfl rfl rfl rfl rfl rfl rfl (Nat.zero_le _) (Nat.zero_le _) ?_
    refine ev_refuse (B := B) (sz := sz) (t := t) z.2.1 (fun h1 g1 => ?_)
    refine jr_zret rfl rfl rfl (Nat.zero_le _) (Nat.zero_le _) ?_
    exact k2 (fun q => c4 (hk.trans (congrArg nI q))) h1 (jCf_ft g1) g1.2.2.2.1 g1.2.2.2.2

set_option maxHeartbeats 800000 in
set_option maxRecDepth 100000 in
theorem ev_oldN2_m {d : Nat} {h : jx_H} {Q : Option jx_V → jx_H → Prop} {B : Nat → Int32} {sz T t : Nat} {n x : Nat} {W : Nat → List Nat} (z : jTS h B sz T t) (hW : jnW W n) (hr : ∀ j, j < n → jh_L h 28 0 j = jy_key (W j)) (hn : n ≤ 6) (hx : x < 100) (k1 : jT_K B sz t = 3 → ∀ j, jnF W (jT_wd B sz (jT_p B sz t)) n 0 = some j → j ≠ x → ∀ h', jCf h h' → jTS h' B sz T (t + 1) → jh_I h' 6 0 7 = nI j → Q (some (jv_i 1)) h') (k4 : jT_K B sz t = 3 → jnF W (jT_wd B sz (jT_p B sz t)) n 0 = some x → ∀ h', jCf h h' → jh_I h' 6 0 8 = 3 → jh_I h' 6 0 9 = nI (jT_p B sz t) → Q (some (jv_i 0)) h') (k2 : ¬ jT_K B sz t = 3 → ∀ h', jCf h h' → jh_I h' 6 0 8 = jX_kd (jT_K B sz t) → jh_I h' 6 0 9 = nI (jT_p B sz t) → Q (some (jv_i 0)) h') (k3 : jT_K B sz t = 3 → jnF W (jT_wd B sz (jT_p B sz t)) n 0 = none → ∀ h', jCf h h' → jh_I h' 6 0 8 = 5 → jh_I h' 6 0 9 = nI (jT_p B sz t) → Q (some (jv_i 0)) h')  : jx_Ev jm_Rdr_wantKnownName (d + 4) 0 0 false 0 [jv_r 6 0, jv_r 28 0, jv_i (nI n), jv_i (nI x)] h Q := by
  show jx_W (jm_Rdr_wantKnownName, d + 4, 0, 0, false, 0, _) Q 0 0 0 [some (jv_r 6 0), some (jv_r 28 0), some (jv_i (nI n)), some (jv_i (nI x))] [] _
  have hkl : jT_K B sz t < 256 := jT_k_lt
  have hk : jh_I h 9 0 8 = nI (jT_K B sz t) := z.2.1.2.1
  refine jr_aload rfl rfl ?_
  refine jr_getR rfl rfl rfl rfl (Or.inl rfl) ?_
  refine jr_getI rfl rfl ?_
  refine jr_ic rfl ?_
  refine jr_icmp_eq rfl (fun c4 => ?_) (fun c4 => ?_)
  · have q : jT_K B sz t = 3 := jn_eq (hk.symm.trans c4) (by omega) (by decide)
    have jb : ∀ j, jnF W (jT_wd B sz (jT_p B sz t)) n 0 = some j → j < n := fun j e => by have := (jnF_lt n 0 j e).2.1; omega
    refine jr_aload rfl rfl ?_
    refine jr_aload rfl rfl ?_
    refine jr_aload rfl rfl ?_
    refine jr_iload rfl rfl ?_
    refine jr_cv2 (mc' := 0) (ms' := 0) rfl jm_Rdr_placeOfName_n jm_Rdr_placeOfName_f rfl rfl rfl rfl rfl rfl rfl (Nat.zero_le _) (Nat.zero_le _) ?_
    refine ev_place_m z q hW hr (by omega) ?_
    refine jr_putI rfl rfl ?_
    refine jr_aload rfl rfl ?_
    refine jr_getI rfl rfl ?_
    refine jr_ic rfl ?_
    refine jr_icmp_ne rfl (fun c18 => ?_) (fun c18 => ?_)
    · refine jr_aload rfl rfl ?_
      refine jr_getI rfl rfl ?_
      refine jr_iload rfl rfl ?_
      refine jr_icmp_ne rfl (fun c26 => ?_) (fun c26 => ?_)
      · refine jr_aload rfl rfl ?_
        refine jr_getR rfl rfl rfl rfl (Or.inl rfl) ?_
        refine jr_cv0 (mc' := 0) (ms' := 0) rfl jm_Tape_take_n jm_Tape_take_f rfl rfl rfl rfl rfl rfl rfl (Nat.zero_le _) (Nat.zero_le _) ?_
        have hn1 := jT_next z.1 z.2.2 (by omega)
        refine ev_take (B := B) (sz := sz) (T := T) (t := t + 1) (h := (ju_I h 6 0 (upd (jh_I h 6 0) 7 (jo_i (jnF W (jT_wd B sz (jT_p B sz t)) n 0))))) z.1 z.2.1.1 hn1 (fun h1 g1 c1 => ?_)
        refine jr_ic rfl ?_
        refine jr_zret rfl rfl rfl (Nat.zero_le _) (Nat.zero_le _) ?_
        cases e : jnF W (jT_wd B sz (jT_p B sz t)) n 0 with
        | none => exact absurd (show jo_i (jnF W (jT_wd B sz (jT_p B sz t)) n 0) = -1 by rw [e]; rfl) c18
        | some j =>
          have hj := jb j e
          exact k1 q j e (fun y => c26 (show jo_i (jnF W (jT_wd B sz (jT_p B sz t)) n 0) = nI x by rw [e, y]; rfl)) h1 (jCf_t jCf_v (jCf_G g1)) (jTS_take (jTS_v z) g1 c1 hn1) ((congrFun (g1.1 6 0 (by decide)) 7).trans ((show upd (jh_I h 6 0) 7 (jo_i (jnF W (jT_wd B sz (jT_p B sz t)) n 0)) 7 = _ from jg_us _ _ _).trans (congrArg jo_i e)))
      · refine jr_aload rfl rfl ?_
        refine jr_ic rfl ?_
        refine jr_cv1 (mc' := 0) (ms' := 0) rfl jm_Rdr_refuse_n jm_Rdr_refuse_f rfl rfl rfl rfl rfl rfl rfl (Nat.zero_le _) (Nat.zero_le _) ?_
        refine ev_refuse (B := B) (sz := sz) (t := t) z.2.1 (fun h1 g1 => ?_)
        refine jr_zret rfl rfl rfl (Nat.zero_le _) (Nat.zero_le _) ?_
        exact k4 q (by
          cases e : jnF W (jT_wd B sz (jT_p B sz t)) n 0 with
          | none => exact absurd (show jo_i (jnF W (jT_wd B sz (jT_p B sz t)) n 0) = -1 by rw [e]; rfl) c18
          | some j =>
            have hj := jb j e
            have c27 : jo_i (jnF W (jT_wd B sz (jT_p B sz t)) n 0) = nI x := c26
            rw [e] at c27
            rw [jn_eq (show nI j = nI x from c27) (by omega) (by omega)]) h1 (jCf_t jCf_v (jCf_ft g1)) (g1.2.2.2.1.trans (if_neg (by omega))) g1.2.2.2.2
    · refine jr_aload rfl rfl ?_
      refine jr_ic rfl ?_
      refine jr_cv1 (mc' := 0) (ms' := 0) rfl jm_Rdr_refuse_n jm_Rdr_refuse_f rfl rfl rfl rfl rfl rfl rfl (Nat.zero_le _) (Nat.zero_le _) ?_
      refine ev_refuse (B := B) (sz := sz) (t := t) z.2.1 (fun h1 g1 => ?_)
      refine jr_zret rfl rfl rfl (Nat.zero_le _) (Nat.zero_le _) ?_
      exact k3 q ((jo_n jb (by omega)).mp c18) h1 (jCf_t jCf_v (jCf_ft g1)) (g1.2.2.2.1.trans (if_neg (by omega))) g1.2.2.2.2
  · refine jr_aload rfl rfl ?_
    refine jr_ic rfl ?_
    refine jr_cv1 (mc' := 0) (ms' := 0) rfl jm_Rdr_refuse_n jm_Rdr_refuse_f rfl rfl rfl rfl rfl rfl rfl (Nat.zero_le _) (Nat.zero_le _) ?_
    refine ev_refuse (B := B) (sz := sz) (t := t) z.2.1 (fun h1 g1 => ?_)
    refine jr_zret rfl rfl rfl (Nat.zero_le _) (Nat.zero_le _) ?_
    exact k2 (fun q => c4 (hk.trans (congrArg nI q))) h1 (jCf_ft g1) g1.2.2.2.1 g1.2.2.2.2

set_option maxHeartbeats 800000 in
set_option maxRecDepth 100000 in
theorem ev_oldN_p {d : Nat} {h : jx_H} {Q : Option jx_V → jx_H → Prop} {B : Nat → Int32} {sz T t : Nat} {n : Nat} {W : Nat → List Nat} (z : jTS h B sz T t) (hW : jnW W n) (hr : ∀ j, j < n → jh_L h 29 0 j = jy_key (W j)) (hn : n ≤ 5) (k1 : jT_K B sz t = 3 → ∀ j, jnF W (jT_wd B sz (jT_p B sz t)) n 0 = some j → ∀ h', jCf h h' → jTS h' B sz T (t + 1) → jh_I h' 6 0 7 = nI j → Q (some (jv_i 1)) h') (k2 : ¬ jT_K B sz t = 3 → ∀ h', jCf h h' → jh_I h' 6 0 8 = jX_kd (jT_K B sz t) → jh_I h' 6 0 9 = nI (jT_p B sz t) → Q (some (jv_i 0)) h') (k3 : jT_K B sz t = 3 → jnF W (jT_wd B sz (jT_p B sz t)) n 0 = none → ∀ h', jCf h h' → jh_I h' 6 0 8 = 5 → jh_I h' 6 0 9 = nI (jT_p B sz t) → Q (some (jv_i 0)) h')  : jx_Ev jm_Rdr_wantKnownName (d + 4) 0 0 false 0 [jv_r 6 0, jv_r 29 0, jv_i (nI n), jv_i (-1)] h Q := by
  show jx_W (jm_Rdr_wantKnownName, d + 4, 0, 0, false, 0, _) Q 0 0 0 [some (jv_r 6 0), some (jv_r 29 0), some (jv_i (nI n)), some (jv_i (-1))] [] _
  have hkl : jT_K B sz t < 256 := jT_k_lt
  have hk : jh_I h 9 0 8 = nI (jT_K B sz t) := z.2.1.2.1
  refine jr_aload rfl rfl ?_
  refine jr_getR rfl rfl rfl rfl (Or.inl rfl) ?_
  refine jr_getI rfl rfl ?_
  refine jr_ic rfl ?_
  refine jr_icmp_eq rfl (fun c4 => ?_) (fun c4 => ?_)
  · have q : jT_K B sz t = 3 := jn_eq (hk.symm.trans c4) (by omega) (by decide)
    have jb : ∀ j, jnF W (jT_wd B sz (jT_p B sz t)) n 0 = some j → j < n := fun j e => by have := (jnF_lt n 0 j e).2.1; omega
    refine jr_aload rfl rfl ?_
    refine jr_aload rfl rfl ?_
    refine jr_aload rfl rfl ?_
    refine jr_iload rfl rfl ?_
    refine jr_cv2 (mc' := 0) (ms' := 0) rfl jm_Rdr_placeOfName_n jm_Rdr_placeOfName_f rfl rfl rfl rfl rfl rfl rfl (Nat.zero_le _) (Nat.zero_le _) ?_
    refine ev_place_p z q hW hr (by omega) ?_
    refine jr_putI rfl rfl ?_
    refine jr_aload rfl rfl ?_
    refine jr_getI rfl rfl ?_
    refine jr_ic rfl ?_
    refine jr_icmp_ne rfl (fun c18 => ?_) (fun c18 => ?_)
    · refine jr_aload rfl rfl ?_
      refine jr_getI rfl rfl ?_
      refine jr_iload rfl rfl ?_
      refine jr_icmp_ne rfl (fun _ => ?_) (fun z => absurd z c18)
      refine jr_aload rfl rfl ?_
      refine jr_getR rfl rfl rfl rfl (Or.inl rfl) ?_
      refine jr_cv0 (mc' := 0) (ms' := 0) rfl jm_Tape_take_n jm_Tape_take_f rfl rfl rfl rfl rfl rfl rfl (Nat.zero_le _) (Nat.zero_le _) ?_
      have hn1 := jT_next z.1 z.2.2 (by omega)
      refine ev_take (B := B) (sz := sz) (T := T) (t := t + 1) (h := (ju_I h 6 0 (upd (jh_I h 6 0) 7 (jo_i (jnF W (jT_wd B sz (jT_p B sz t)) n 0))))) z.1 z.2.1.1 hn1 (fun h1 g1 c1 => ?_)
      refine jr_ic rfl ?_
      refine jr_zret rfl rfl rfl (Nat.zero_le _) (Nat.zero_le _) ?_
      cases e : jnF W (jT_wd B sz (jT_p B sz t)) n 0 with
      | none => exact absurd (show jo_i (jnF W (jT_wd B sz (jT_p B sz t)) n 0) = -1 by rw [e]; rfl) c18
      | some j =>
        have hj := jb j e
        exact k1 q j e h1 (jCf_t jCf_v (jCf_G g1)) (jTS_take (jTS_v z) g1 c1 hn1) ((congrFun (g1.1 6 0 (by decide)) 7).trans ((show upd (jh_I h 6 0) 7 (jo_i (jnF W (jT_wd B sz (jT_p B sz t)) n 0)) 7 = _ from jg_us _ _ _).trans (congrArg jo_i e)))
    · refine jr_aload rfl rfl ?_
      refine jr_ic rfl ?_
      refine jr_cv1 (mc' := 0) (ms' := 0) rfl jm_Rdr_refuse_n jm_Rdr_refuse_f rfl rfl rfl rfl rfl rfl rfl (Nat.zero_le _) (Nat.zero_le _) ?_
      refine ev_refuse (B := B) (sz := sz) (t := t) z.2.1 (fun h1 g1 => ?_)
      refine jr_zret rfl rfl rfl (Nat.zero_le _) (Nat.zero_le _) ?_
      exact k3 q ((jo_n jb (by omega)).mp c18) h1 (jCf_t jCf_v (jCf_ft g1)) (g1.2.2.2.1.trans (if_neg (by omega))) g1.2.2.2.2
  · refine jr_aload rfl rfl ?_
    refine jr_ic rfl ?_
    refine jr_cv1 (mc' := 0) (ms' := 0) rfl jm_Rdr_refuse_n jm_Rdr_refuse_f rfl rfl rfl rfl rfl rfl rfl (Nat.zero_le _) (Nat.zero_le _) ?_
    refine ev_refuse (B := B) (sz := sz) (t := t) z.2.1 (fun h1 g1 => ?_)
    refine jr_zret rfl rfl rfl (Nat.zero_le _) (Nat.zero_le _) ?_
    exact k2 (fun q => c4 (hk.trans (congrArg nI q))) h1 (jCf_ft g1) g1.2.2.2.1 g1.2.2.2.2

set_option maxHeartbeats 800000 in
set_option maxRecDepth 100000 in
theorem ev_oldN2_p {d : Nat} {h : jx_H} {Q : Option jx_V → jx_H → Prop} {B : Nat → Int32} {sz T t : Nat} {n x : Nat} {W : Nat → List Nat} (z : jTS h B sz T t) (hW : jnW W n) (hr : ∀ j, j < n → jh_L h 29 0 j = jy_key (W j)) (hn : n ≤ 5) (hx : x < 100) (k1 : jT_K B sz t = 3 → ∀ j, jnF W (jT_wd B sz (jT_p B sz t)) n 0 = some j → j ≠ x → ∀ h', jCf h h' → jTS h' B sz T (t + 1) → jh_I h' 6 0 7 = nI j → Q (some (jv_i 1)) h') (k4 : jT_K B sz t = 3 → jnF W (jT_wd B sz (jT_p B sz t)) n 0 = some x → ∀ h', jCf h h' → jh_I h' 6 0 8 = 3 → jh_I h' 6 0 9 = nI (jT_p B sz t) → Q (some (jv_i 0)) h') (k2 : ¬ jT_K B sz t = 3 → ∀ h', jCf h h' → jh_I h' 6 0 8 = jX_kd (jT_K B sz t) → jh_I h' 6 0 9 = nI (jT_p B sz t) → Q (some (jv_i 0)) h') (k3 : jT_K B sz t = 3 → jnF W (jT_wd B sz (jT_p B sz t)) n 0 = none → ∀ h', jCf h h' → jh_I h' 6 0 8 = 5 → jh_I h' 6 0 9 = nI (jT_p B sz t) → Q (some (jv_i 0)) h')  : jx_Ev jm_Rdr_wantKnownName (d + 4) 0 0 false 0 [jv_r 6 0, jv_r 29 0, jv_i (nI n), jv_i (nI x)] h Q := by
  show jx_W (jm_Rdr_wantKnownName, d + 4, 0, 0, false, 0, _) Q 0 0 0 [some (jv_r 6 0), some (jv_r 29 0), some (jv_i (nI n)), some (jv_i (nI x))] [] _
  have hkl : jT_K B sz t < 256 := jT_k_lt
  have hk : jh_I h 9 0 8 = nI (jT_K B sz t) := z.2.1.2.1
  refine jr_aload rfl rfl ?_
  refine jr_getR rfl rfl rfl rfl (Or.inl rfl) ?_
  refine jr_getI rfl rfl ?_
  refine jr_ic rfl ?_
  refine jr_icmp_eq rfl (fun c4 => ?_) (fun c4 => ?_)
  · have q : jT_K B sz t = 3 := jn_eq (hk.symm.trans c4) (by omega) (by decide)
    have jb : ∀ j, jnF W (jT_wd B sz (jT_p B sz t)) n 0 = some j → j < n := fun j e => by have := (jnF_lt n 0 j e).2.1; omega
    refine jr_aload rfl rfl ?_
    refine jr_aload rfl rfl ?_
    refine jr_aload rfl rfl ?_
    refine jr_iload rfl rfl ?_
    refine jr_cv2 (mc' := 0) (ms' := 0) rfl jm_Rdr_placeOfName_n jm_Rdr_placeOfName_f rfl rfl rfl rfl rfl rfl rfl (Nat.zero_le _) (Nat.zero_le _) ?_
    refine ev_place_p z q hW hr (by omega) ?_
    refine jr_putI rfl rfl ?_
    refine jr_aload rfl rfl ?_
    refine jr_getI rfl rfl ?_
    refine jr_ic rfl ?_
    refine jr_icmp_ne rfl (fun c18 => ?_) (fun c18 => ?_)
    · refine jr_aload rfl rfl ?_
      refine jr_getI rfl rfl ?_
      refine jr_iload rfl rfl ?_
      refine jr_icmp_ne rfl (fun c26 => ?_) (fun c26 => ?_)
      · refine jr_aload rfl rfl ?_
        refine jr_getR rfl rfl rfl rfl (Or.inl rfl) ?_
        refine jr_cv0 (mc' := 0) (ms' := 0) rfl jm_Tape_take_n jm_Tape_take_f rfl rfl rfl rfl rfl rfl rfl (Nat.zero_le _) (Nat.zero_le _) ?_
        have hn1 := jT_next z.1 z.2.2 (by omega)
        refine ev_take (B := B) (sz := sz) (T := T) (t := t + 1) (h := (ju_I h 6 0 (upd (jh_I h 6 0) 7 (jo_i (jnF W (jT_wd B sz (jT_p B sz t)) n 0))))) z.1 z.2.1.1 hn1 (fun h1 g1 c1 => ?_)
        refine jr_ic rfl ?_
        refine jr_zret rfl rfl rfl (Nat.zero_le _) (Nat.zero_le _) ?_
        cases e : jnF W (jT_wd B sz (jT_p B sz t)) n 0 with
        | none => exact absurd (show jo_i (jnF W (jT_wd B sz (jT_p B sz t)) n 0) = -1 by rw [e]; rfl) c18
        | some j =>
          have hj := jb j e
          exact k1 q j e (fun y => c26 (show jo_i (jnF W (jT_wd B sz (jT_p B sz t)) n 0) = nI x by rw [e, y]; rfl)) h1 (jCf_t jCf_v (jCf_G g1)) (jTS_take (jTS_v z) g1 c1 hn1) ((congrFun (g1.1 6 0 (by decide)) 7).trans ((show upd (jh_I h 6 0) 7 (jo_i (jnF W (jT_wd B sz (jT_p B sz t)) n 0)) 7 = _ from jg_us _ _ _).trans (congrArg jo_i e)))
      · refine jr_aload rfl rfl ?_
        refine jr_ic rfl ?_
        refine jr_cv1 (mc' := 0) (ms' := 0) rfl jm_Rdr_refuse_n jm_Rdr_refuse_f rfl rfl rfl rfl rfl rfl rfl (Nat.zero_le _) (Nat.zero_le _) ?_
        refine ev_refuse (B := B) (sz := sz) (t := t) z.2.1 (fun h1 g1 => ?_)
        refine jr_zret rfl rfl rfl (Nat.zero_le _) (Nat.zero_le _) ?_
        exact k4 q (by
          cases e : jnF W (jT_wd B sz (jT_p B sz t)) n 0 with
          | none => exact absurd (show jo_i (jnF W (jT_wd B sz (jT_p B sz t)) n 0) = -1 by rw [e]; rfl) c18
          | some j =>
            have hj := jb j e
            have c27 : jo_i (jnF W (jT_wd B sz (jT_p B sz t)) n 0) = nI x := c26
            rw [e] at c27
            rw [jn_eq (show nI j = nI x from c27) (by omega) (by omega)]) h1 (jCf_t jCf_v (jCf_ft g1)) (g1.2.2.2.1.trans (if_neg (by omega))) g1.2.2.2.2
    · refine jr_aload rfl rfl ?_
      refine jr_ic rfl ?_
      refine jr_cv1 (mc' := 0) (ms' := 0) rfl jm_Rdr_refuse_n jm_Rdr_refuse_f rfl rfl rfl rfl rfl rfl rfl (Nat.zero_le _) (Nat.zero_le _) ?_
      refine ev_refuse (B := B) (sz := sz) (t := t) z.2.1 (fun h1 g1 => ?_)
      refine jr_zret rfl rfl rfl (Nat.zero_le _) (Nat.zero_le _) ?_
      exact k3 q ((jo_n jb (by omega)).mp c18) h1 (jCf_t jCf_v (jCf_ft g1)) (g1.2.2.2.1.trans (if_neg (by omega))) g1.2.2.2.2
  · refine jr_aload rfl rfl ?_
    refine jr_ic rfl ?_
    refine jr_cv1 (mc' := 0) (ms' := 0) rfl jm_Rdr_refuse_n jm_Rdr_refuse_f rfl rfl rfl rfl rfl rfl rfl (Nat.zero_le _) (Nat.zero_le _) ?_
    refine ev_refuse (B := B) (sz := sz) (t := t) z.2.1 (fun h1 g1 => ?_)
    refine jr_zret rfl rfl rfl (Nat.zero_le _) (Nat.zero_le _) ?_
    exact k2 (fun q => c4 (hk.trans (congrArg nI q))) h1 (jCf_ft g1) g1.2.2.2.1 g1.2.2.2.2

