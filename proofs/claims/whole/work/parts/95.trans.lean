def jw_sg (B : Nat) (cd : Nat → Int32) : Nat → Nat → Nat → Nat → Prop
  | 0, _, m, m' => m = m'
  | n + 1, k, m, m' => (cd k = 126 ∧ 1 ≤ m ∧ jw_sg B cd n (k + 1) m m') ∨ (cd k ≠ 126 ∧ (97 ≤ cd k ∧ cd k ≤ 122) ∧ m < B ∧ jw_sg B cd n (k + 1) (m + 1) m') ∨ (cd k ≠ 126 ∧ ¬ (97 ≤ cd k ∧ cd k ≤ 122) ∧ 2 ≤ m ∧ jw_sg B cd n (k + 1) (m - 1) m')
theorem jw_sg_okb {B : Nat} {cd : Nat → Int32} : ∀ n k m, jw_sg B cd n k m 1 → jw_okb B cd n k m
  | 0, _, _, h => h
  | n + 1, k, m, h => by
    rcases h with ⟨h1, h2, h3⟩ | ⟨h1, h2, h3, h4⟩ | ⟨h1, h2, h3, h4⟩
    · exact Or.inl ⟨h1, h2, jw_sg_okb n _ _ h3⟩
    · exact Or.inr (Or.inl ⟨h1, h2, h3, jw_sg_okb n _ _ h4⟩)
    · exact Or.inr (Or.inr ⟨h1, h2, h3, jw_sg_okb n _ _ h4⟩)
theorem jw_sg_app {B : Nat} {cd : Nat → Int32} {n' m' m'' : Nat} : ∀ n k m, jw_sg B cd n k m m' → jw_sg B cd n' (k + n) m' m'' → jw_sg B cd (n + n') k m m''
  | 0, k, m, h, g => by
    rw [Nat.zero_add]
    have e : m = m' := h
    rw [e]
    exact g
  | n + 1, k, m, h, g => by
    have g' : jw_sg B cd n' (k + 1 + n) m' m'' := by rw [show k + 1 + n = k + (n + 1) by omega]; exact g
    rw [show n + 1 + n' = (n + n') + 1 by omega]
    rcases h with ⟨h1, h2, h3⟩ | ⟨h1, h2, h3, h4⟩ | ⟨h1, h2, h3, h4⟩
    · exact Or.inl ⟨h1, h2, jw_sg_app n _ _ h3 g'⟩
    · exact Or.inr (Or.inl ⟨h1, h2, h3, jw_sg_app n _ _ h4 g'⟩)
    · exact Or.inr (Or.inr ⟨h1, h2, h3, jw_sg_app n _ _ h4 g'⟩)
theorem jw_sg_e {B : Nat} {cd cd' : Nat → Int32} : ∀ n k m m', jw_sg B cd n k m m' → (∀ q, k ≤ q → q < k + n → cd' q = cd q) → jw_sg B cd' n k m m'
  | 0, _, _, _, h, _ => h
  | n + 1, k, m, m', h, e => by
    have e0 := e k (Nat.le_refl _) (by omega)
    have ih := fun a b (x : jw_sg B cd n (k + 1) a b) => jw_sg_e n (k + 1) a b x (fun q h1 h2 => e q (by omega) (by omega))
    unfold jw_sg
    rw [e0]
    rcases h with ⟨h1, h2, h3⟩ | ⟨h1, h2, h3, h4⟩ | ⟨h1, h2, h3, h4⟩
    · exact Or.inl ⟨h1, h2, ih _ _ h3⟩
    · exact Or.inr (Or.inl ⟨h1, h2, h3, ih _ _ h4⟩)
    · exact Or.inr (Or.inr ⟨h1, h2, h3, ih _ _ h4⟩)
def jAg (β c : Nat) (C N C' N' : Nat → Int32) : Prop := ∀ q, q < 620 * β + c ∨ 620 * β + 620 ≤ q → C' q = C q ∧ N' q = N q
theorem jAg_r (β c : Nat) (C N : Nat → Int32) : jAg β c C N C N := fun _ _ => ⟨rfl, rfl⟩
theorem jAg_t {β c c1 : Nat} {C N C1 N1 C2 N2 : Nat → Int32} (h : c ≤ c1) (f : jAg β c C N C1 N1) (g : jAg β c1 C1 N1 C2 N2) : jAg β c C N C2 N2 := fun q hq => by
  have g1 := g q (by omega)
  have f1 := f q hq
  exact ⟨g1.1.trans f1.1, g1.2.trans f1.2⟩
theorem jAg_u {β c c1 : Nat} {C N : Nat → Int32} {x y : Int32} (h : c ≤ c1) (h2 : c1 < 620) : jAg β c C N (upd C (620 * β + c1) x) (upd N (620 * β + c1) y) := fun q hq => ⟨jg_un (by omega), jg_un (by omega)⟩
def jTd (β c : Nat) (D C N : Nat → Int32) : Prop := ∀ q, q < c → jt_tr (D q) (C (620 * β + q)) (N (620 * β + q))
theorem jTd_u {β c : Nat} {D C N : Nat → Int32} {x y : Int32} (h : jTd β c D C N) (h2 : jt_tr (D c) x y) : jTd β (c + 1) D (upd C (620 * β + c) x) (upd N (620 * β + c) y) := fun q hq => by
  by_cases e : q = c
  · rw [e, jg_us, jg_us]; exact h2
  · rw [jg_un (by omega), jg_un (by omega)]; exact h q (by omega)
def jPre (k β i lv θ w : Nat) (s : Int32) (P : List (Nat × Int32)) : Prop := β < 2 ∧ P.length + 1 ≤ 6 * i + 1 + lv ∧ (7 ≤ w ∨ w < θ) ∧ jp_b ((w, s) :: P) ∧ i ≤ 7 ∧ (3 ≤ lv → k = 128 → 3 < w ∧ w < 7)
def jTR (B : Nat → Int32) (sz β i lv θ μ t u v c x t' c' : Nat) (D : Nat → Int32) : Prop := ∀ (d n0 : Nat) (hm : jx_H) (C N : Nat → Int32) (w : Nat) (s : Int32) (P : List (Nat × Int32)) (Qm : Option jx_V → jx_H → Prop),
  jX hm B sz β t u v c C N ((w, s) :: P) i → jPre (jT_K B sz t) β i lv θ w s P → jTd β c D C N →
  (jT_rk (jT_K B sz t') < μ → (jT_rk (jT_K B sz t') = 4 → jp_cmp ((w, s) :: P) = false) → ∀ (hm' : jx_H) (C' N' : Nat → Int32), jX hm' B sz β t' (u + x) (v + x) c' C' N' ((w, s) :: P) i → jX_F β hm hm' → jAg β c C N C' N' → jTd β c' D C' N' → (∀ m, m + x ≤ 40 → jw_sg 40 C' (c' - c) (620 * β + c) m (m + 1)) → jq_PO d n0 Qm (jT_rk (jT_K B sz t')) hm') →
  (jT_rk (jT_K B sz t') = 4 → (4 < μ → jp_cmp ((w, s) :: P) = true) → ∀ hm' : jx_H, jX_F β hm hm' → jAg β c C N (jh_I hm' 93 0) (jh_I hm' 94 0) → jh_I hm' 11 0 4 = 2 → jPl hm' (jT_p B sz t') → jq_HD d n0 Qm 1 hm') →
  jq_HD d n0 Qm 1 hm
def jTB (B : Nat → Int32) (sz β i lv θ t u v c : Nat) (kd : Int32) (pl : Nat) (D : Nat → Int32) : Prop := ∀ (d n0 : Nat) (hm : jx_H) (C N : Nat → Int32) (w : Nat) (s : Int32) (P : List (Nat × Int32)) (Qm : Option jx_V → jx_H → Prop),
  jX hm B sz β t u v c C N ((w, s) :: P) i → jPre (jT_K B sz t) β i lv θ w s P → jTd β c D C N →
  (∀ (hm' : jx_H) (w' : Int32), jX_F β hm hm' → jAg β c C N (jh_I hm' 93 0) (jh_I hm' 94 0) → jh_I hm' 11 0 4 = kd → jPl hm' pl → jq_HD d n0 Qm w' hm') →
  jq_HD d n0 Qm 1 hm
theorem jTR_D {B : Nat → Int32} {sz β i lv θ μ t u v c x t' c' : Nat} {D D' : Nat → Int32} (hc : c ≤ c') (e : ∀ q, q < c' → D' q = D q) (h : jTR B sz β i lv θ μ t u v c x t' c' D) : jTR B sz β i lv θ μ t u v c x t' c' D' := by
  intro d n0 hm C N w s P Qm hx hp ht kn kd
  refine h d n0 hm C N w s P Qm hx hp (fun q hq => by rw [← e q (by omega)]; exact ht q hq) (fun h1 h2 hm' C' N' x1 x2 x3 x4 x5 => ?_) kd
  exact kn h1 h2 hm' C' N' x1 x2 x3 (fun q hq => by rw [e q hq]; exact x4 q hq) x5
theorem jTB_D {B : Nat → Int32} {sz β i lv θ t u v c pl : Nat} {kd : Int32} {D D' : Nat → Int32} (e : ∀ q, q < c → D' q = D q) (h : jTB B sz β i lv θ t u v c kd pl D) : jTB B sz β i lv θ t u v c kd pl D' := by
  intro d n0 hm C N w s P Qm hx hp ht k
  exact h d n0 hm C N w s P Qm hx hp (fun q hq => by rw [← e q hq]; exact ht q hq) k
/-- a lower level is a higher one -/
theorem jTR_up {B : Nat → Int32} {sz β i lv lv' θ θ' μ t u v c x t' c' : Nat} {D : Nat → Int32} (h1 : lv' ≤ lv) (h2 : θ' ≤ θ) (h3 : lv' ≤ 2 → 3 ≤ lv → jT_K B sz t ≠ 128) (h : jTR B sz β i lv θ μ t u v c x t' c' D) : jTR B sz β i lv' θ' μ t u v c x t' c' D := by
  intro d n0 hm C N w s P Qm hx hp ht kn kd
  exact h d n0 hm C N w s P Qm hx ⟨hp.1, by have := hp.2.1; omega, by have := hp.2.2.1; omega, hp.2.2.2.1, hp.2.2.2.2.1, fun q1 q2 => by
    by_cases e : 3 ≤ lv'
    · exact hp.2.2.2.2.2 e q2
    · exact absurd q2 (h3 (by omega) q1)⟩ ht kn kd
theorem jTB_up {B : Nat → Int32} {sz β i lv lv' θ θ' t u v c pl : Nat} {kd : Int32} {D : Nat → Int32} (h1 : lv' ≤ lv) (h2 : θ' ≤ θ) (h3 : lv' ≤ 2 → 3 ≤ lv → jT_K B sz t ≠ 128) (h : jTB B sz β i lv θ t u v c kd pl D) : jTB B sz β i lv' θ' t u v c kd pl D := by
  intro d n0 hm C N w s P Qm hx hp ht k
  exact h d n0 hm C N w s P Qm hx ⟨hp.1, by have := hp.2.1; omega, by have := hp.2.2.1; omega, hp.2.2.2.1, hp.2.2.2.2.1, fun q1 q2 => by
    by_cases e : 3 ≤ lv'
    · exact hp.2.2.2.2.2 e q2
    · exact absurd q2 (h3 (by omega) q1)⟩ ht k
theorem jX_rows {h : jx_H} {B : Nat → Int32} {sz β t u v c : Nat} {C N : Nat → Int32} {P : List (Nat × Int32)} {i : Nat} (hx : jX h B sz β t u v c C N P i) : jh_I h 93 0 = C ∧ jh_I h 94 0 = N := ⟨hx.2.2.2.2.2.2.2.1, hx.2.2.2.2.2.2.2.2.1⟩
/-- the same, its end less high -/
theorem jTR_mu {B : Nat → Int32} {sz β i lv θ μ μ' t u v c x t' c' : Nat} {D : Nat → Int32} (h : jTR B sz β i lv θ μ t u v c x t' c' D) (e : jT_rk (jT_K B sz t') < μ → jT_rk (jT_K B sz t') < μ') (e2 : jT_rk (jT_K B sz t') = 4 → (4 < μ' ↔ 4 < μ)) : jTR B sz β i lv θ μ' t u v c x t' c' D := by
  intro d n0 hm C N w s P Qm hx hp ht kn kd
  exact h d n0 hm C N w s P Qm hx hp ht (fun h1 h2 => kn (e h1) h2) (fun h1 h2 => kd h1 (fun z => h2 ((e2 h1).mp z)))
/-- behind a unit -/
theorem jTR_b {B : Nat → Int32} {sz β i t u v c x t' c' : Nat} {D : Nat → Int32} (h : ∀ (d n0 : Nat) (hm : jx_H) (C N : Nat → Int32) (w : Nat) (s : Int32) (P : List (Nat × Int32)) (Qm : Option jx_V → jx_H → Prop), jX hm B sz β t u v c C N ((w, s) :: P) i → jPre (jT_K B sz t) β i 5 7 w s P → jTd β c D C N →
    (∀ (hm' : jx_H) (C' N' : Nat → Int32), jX hm' B sz β t' (u + x) (v + x) c' C' N' ((w, s) :: P) i → jX_F β hm hm' → jAg β c C N C' N' → jTd β c' D C' N' → (∀ m, m + x ≤ 40 → jw_sg 40 C' (c' - c) (620 * β + c) m (m + 1)) → jq_HD d n0 Qm 0 hm') → jq_HD d n0 Qm 1 hm) : jTR B sz β i 5 7 7 t u v c x t' c' D := by
  intro d n0 hm C N w s P Qm hx hp ht kn kd
  obtain ⟨p1, p2, p3, p4, p5, p6⟩ := hp
  refine h d n0 hm C N w s P Qm hx ⟨p1, p2, p3, p4, p5, p6⟩ ht (fun hm' C' N' x1 x2 x3 x4 x5 => ?_)
  refine jq_b x1 p1 (by omega) p4 (fun e1 e2 h2 g2 => ?_) (fun e => ?_)
  · refine kd e1 (fun _ => e2) h2 (jX_F_t x2 (jX_F_ft g2)) ?_ ?_ g2.2.2.2.2
    · rw [g2.1 93 0 (by decide), g2.1 94 0 (by decide), (jX_rows x1).1, (jX_rows x1).2]; exact x3
    · rw [g2.2.2.2.1]
      unfold jX_kd
      rw [if_neg]
      intro z
      have : jT_rk (jT_K B sz t') = 4 := e1
      rw [show jT_K B sz t' = 1 from z] at this
      exact absurd this (by decide)
  · exact kn (jT_rk_lt _) e hm' C' N' x1 x2 x3 x4 x5
theorem jw_sg1 {C : Nat → Int32} {k m : Nat} (h : 97 ≤ C k ∧ C k ≤ 122) (hm : m < 40) : jw_sg 40 C 1 k m (m + 1) := by
  refine Or.inr (Or.inl ⟨fun z => ?_, h, hm, rfl⟩)
  rw [z] at h
  exact absurd h.2 (by decide)
theorem jT_whr {k : Nat} (h : jT_wh k ≠ 0) : 97 ≤ jT_wh k ∧ jT_wh k ≤ 122 := by
  unfold jT_wh at h ⊢
  repeat' split at h
  all_goals first | omega | (repeat' split) <;> omega
theorem jT_rk_n3 (k : Nat) : jT_rk k ≠ 3 := by
  unfold jT_rk
  repeat' split
  all_goals decide
theorem jTR_w {B : Nat → Int32} {sz β i t u v c : Nat} {D : Nat → Int32} (hK : 100 ≤ jT_K B sz t) (hK2 : jT_K B sz t ≤ 106) (hu : u < 90) (hv : v < 30) (hc : c < 620) (hD : jt_tr (D c) (nI (jT_wh (jT_K B sz t))) 0) : jTR B sz β i 5 7 7 t u v c 1 (t + 1) (c + 1) D := by
  refine jTR_b (fun d n0 hm C N w s P Qm hx hp ht k => ?_)
  obtain ⟨p1, p2, p3, p4, p5, p6⟩ := hp
  refine jq_uw hx p1 (by omega) hK hK2 hu hv hc (fun h' x1 f1 => k h' _ _ x1 f1 (jAg_u (Nat.le_refl _) hc) (jTd_u ht hD) (fun m hm => ?_))
  have hr := jT_whr ((jT_wh_iff (k := jT_K B sz t)).mpr ⟨hK, hK2⟩)
  rw [show c + 1 - c = 1 by omega]
  refine jw_sg1 ?_ (by omega)
  rw [jg_us]
  exact ⟨nI_le hr.1 (by omega), nI_le hr.2 (by decide)⟩
theorem jTR_n {B : Nat → Int32} {sz β i t u v c : Nat} {D : Nat → Int32} (hK : jT_K B sz t = 2) (hu : u < 90) (hv : v < 30) (hc : c < 620) (hD : jt_tr (D c) 110 (nI (jT_v B sz (jT_p B sz t)))) : jTR B sz β i 5 7 7 t u v c 1 (t + 1) (c + 1) D := by
  refine jTR_b (fun d n0 hm C N w s P Qm hx hp ht k => ?_)
  obtain ⟨p1, p2, p3, p4, p5, p6⟩ := hp
  refine jq_un hx p1 (by omega) hK hu hv hc (fun h' x1 f1 => k h' _ _ x1 f1 (jAg_u (Nat.le_refl _) hc) (jTd_u ht hD) (fun m hm => ?_))
  rw [show c + 1 - c = 1 by omega]
  refine jw_sg1 ?_ (by omega)
  rw [jg_us]
  decide
theorem jTB_r {B : Nat → Int32} {sz β i t u v c lv θ : Nat} {D : Nat → Int32} (hu : u ≤ 90) (hv : v ≤ 30) (hlv : lv ≤ 5) (hR : ∀ w, 7 ≤ w ∨ w < θ → (3 ≤ lv → jT_K B sz t = 128 → 3 < w ∧ w < 7) → (jT_wh (jT_K B sz t) = 0 ∧ jT_K B sz t ≠ 2 ∧ jT_K B sz t ≠ 40 ∧ (jT_K B sz t ≠ 128 ∨ (3 < w ∧ w < 7))) ∨ (jT_K B sz t = 40 ∧ i = 7) ∨ ((jT_wh (jT_K B sz t) ≠ 0 ∨ jT_K B sz t = 2 ∨ jT_K B sz t = 40) ∧ jT_K B sz t ≠ 128 ∧ (u = 90 ∨ v = 30)) ∨ (jT_K B sz t = 128 ∧ (w ≤ 3 ∨ 7 ≤ w) ∧ i = 7)) : jTB B sz β i lv θ t u v c (jX_kd (jT_K B sz t)) (jT_p B sz t) D := by
  intro d n0 hm C N w s P Qm hx hp ht k
  obtain ⟨p1, p2, p3, p4, p5, p6⟩ := hp
  refine jq_ur hx p1 (by omega) (hR w p3 p6) hu hv p5 (fun h' g => k h' 1 (jX_F_ft g) ?_ g.2.2.2.1 g.2.2.2.2)
  rw [g.1 93 0 (by decide), g.1 94 0 (by decide), (jX_rows hx).1, (jX_rows hx).2]
  exact jAg_r _ _ _ _
/-- a bracket -/
theorem jTR_br {B : Nat → Int32} {sz β i t u v c x t1 c1 : Nat} {D : Nat → Int32} (hK : jT_K B sz t = 40) (hi : i < 7) (hu : u < 90) (hv : v < 30) (h : jTR B sz β (i + 1) 0 1 1 (t + 1) (u + 1) (v + 1) c x t1 c1 D) (hK1 : jT_K B sz t1 = 41) : jTR B sz β i 5 7 7 t u v c (x + 1) (t1 + 1) c1 D := by
  refine jTR_b (fun d n0 hm C N w s P Qm hx hp ht k => ?_)
  obtain ⟨p1, p2, p3, p4, p5, p6⟩ := hp
  refine jq_ub hx p1 (by omega) hK hi hu hv (fun h1 x1 f1 => ?_)
  refine h d n0 h1 C N 7 126 ((w, s) :: P) Qm x1 ⟨p1, by simp; omega, Or.inl (Nat.le_refl _), Or.inl (by decide), by omega, fun z => absurd z (by decide)⟩ ht (fun e1 e2 h2 C2 N2 x2 f2 g2 t2 s2 => ?_) (fun e1 => ?_)
  · refine jq_close x2 p1 (by simp; omega) rfl (by omega) (by omega) hK1 (fun h3 x3 f3 => ?_)
    refine k h3 C2 N2 ?_ (jX_F_t f1 (jX_F_t f2 f3)) g2 t2 (fun m hm => s2 m (by omega))
    rw [show u + (x + 1) = u + 1 + x by omega, show v + (x + 1) = v + 1 + x by omega]
    exact x3
  · rw [show jT_K B sz t1 = 41 from hK1] at e1
    exact absurd e1 (by decide)
theorem jTB_br {B : Nat → Int32} {sz β i t u v c pl : Nat} {kd : Int32} {D : Nat → Int32} (hK : jT_K B sz t = 40) (hi : i < 7) (hu : u < 90) (hv : v < 30) (h : jTB B sz β (i + 1) 0 1 (t + 1) (u + 1) (v + 1) c kd pl D) : jTB B sz β i 5 7 t u v c kd pl D := by
  intro d n0 hm C N w s P Qm hx hp ht k
  obtain ⟨p1, p2, p3, p4, p5, p6⟩ := hp
  refine jq_ub hx p1 (by omega) hK hi hu hv (fun h1 x1 f1 => ?_)
  exact h d n0 h1 C N 7 126 ((w, s) :: P) Qm x1 ⟨p1, by simp; omega, Or.inl (Nat.le_refl _), Or.inl (by decide), by omega, fun z => absurd z (by decide)⟩ ht (fun hm' w' f' => k hm' w' (jX_F_t f1 f'))
/-- a bracket that is not closed -/
theorem jTB_bc {B : Nat → Int32} {sz β i t u v c x t1 c1 : Nat} {D : Nat → Int32} (hK : jT_K B sz t = 40) (hi : i < 7) (hu : u < 90) (hv : v < 30) (h : jTR B sz β (i + 1) 0 1 1 (t + 1) (u + 1) (v + 1) c x t1 c1 D) (hr : jT_rk (jT_K B sz t1) < 1 ∨ jT_rk (jT_K B sz t1) = 4) (hK1 : ¬ jT_K B sz t1 = 41) : jTB B sz β i 5 7 t u v c (jX_kd (jT_K B sz t1)) (jT_p B sz t1) D := by
  intro d n0 hm C N w s P Qm hx hp ht k
  obtain ⟨p1, p2, p3, p4, p5, p6⟩ := hp
  refine jq_ub hx p1 (by omega) hK hi hu hv (fun h1 x1 f1 => ?_)
  refine h d n0 h1 C N 7 126 ((w, s) :: P) Qm x1 ⟨p1, by simp; omega, Or.inl (Nat.le_refl _), Or.inl (by decide), by omega, fun z => absurd z (by decide)⟩ ht (fun e1 e2 h2 C2 N2 x2 f2 g2 t2 s2 => ?_) (fun e1 _ h2 f2 g2 a1 a2 => ?_)
  · refine jq_close_r x2 p1 (by simp; omega) rfl (by omega) (by omega) hK1 (fun h3 f3 g3 a1 a2 => ?_)
    refine k h3 0 (jX_F_t f1 (jX_F_t f2 f3)) ?_ a1 a2
    rw [g3.1, g3.2, (jX_rows x2).1, (jX_rows x2).2]
    exact g2
  · refine k h2 1 (jX_F_t f1 f2) g2 ?_ a2
    rw [a1]
    unfold jX_kd
    rw [if_neg]
    intro z
    rw [show jT_K B sz t1 = 1 from z] at e1
    exact absurd e1 (by decide)
/-- two operands and what joins them -/
theorem jTR_ch {B : Nat → Int32} {sz β i lv θ2 ρ t u v c x1 t1 c1 x2 t2 c2 : Nat} {D : Nat → Int32} (hρ : ρ ≤ 6) (hρ3 : ρ ≠ 3) (hρ4 : ρ ≠ 4) (hρ0 : 0 < ρ) (hθ2 : ρ < θ2) (hlv : lv ≤ 4) (hl3 : 3 ≤ lv + 1 → 3 < ρ ∧ ρ < 7) (hcc : c ≤ c1) (hc1 : c1 ≤ c2) (hc : c2 < 620)
    (h1 : jTR B sz β i lv ρ (ρ + 1) t u v c x1 t1 c1 D) (hK : jT_rk (jT_K B sz t1) = ρ) (h2 : jTR B sz β i (lv + 1) θ2 (ρ + 1) (t1 + 1) (u + x1) (v + x1) c1 x2 t2 c2 D) (hx1 : 1 ≤ x1) (hD : jt_tr (D c2) (jT_sgn (jT_K B sz t1)) 0)
    (hop : jT_sgn (jT_K B sz t1) ≠ 126 ∧ ¬ (97 ≤ jT_sgn (jT_K B sz t1) ∧ jT_sgn (jT_K B sz t1) ≤ 122)) : jTR B sz β i lv ρ (ρ + 1) t u v c (x1 + x2) t2 (c2 + 1) D := by
  intro d n0 hm C N w s P Qm hx hp ht kn kd
  obtain ⟨p1, p2, p3, p4, p5, p6⟩ := id hp
  refine h1 d n0 hm C N w s P Qm hx hp ht (fun e1 e2 m1 C1 N1 y1 f1 g1 d1 s1 => ?_) (fun e1 => absurd (hK.symm.trans e1) hρ4)
  refine jq_push y1 p1 (by omega) (by omega) (by omega) (fun m2 y2 f2 => ?_)
  have hcmp : ∀ P', jp_cmp ((ρ, jT_sgn (jT_K B sz t1)) :: P') = if ρ = 5 ∨ ρ = 6 then jp_cmp P' else ρ == 4 := fun P' => rfl
  rw [hK] at y2
  refine h2 d n0 m2 C1 N1 ρ _ ((w, s) :: P) Qm y2 ⟨p1, by simp; omega, Or.inr hθ2, ?_, p5, fun q1 _ => hl3 q1⟩ d1 (fun e3 e4 m3 C3 N3 y3 f3 g3 d3 s3 => ?_) (fun e3 e4 m3 f3 g3 a1 a2 => ?_)
  · by_cases z : ρ ≠ 5 ∧ ρ ≠ 6
    · exact Or.inl z
    · exact Or.inr p4
  · refine jq_pop y3 p1 (by simp; omega) hρ hρ3 (by omega) hc (fun m4 y4 f4 => ?_)
    refine kn e3 (fun z => ?_) m4 _ _ (by rw [← Nat.add_assoc, ← Nat.add_assoc]; exact y4) (jX_F_t f1 (jX_F_t f2 (jX_F_t f3 f4))) (jAg_t hcc g1 (jAg_t hc1 g3 (jAg_u (Nat.le_refl _) hc))) (jTd_u d3 hD) (fun m hm => ?_)
    · have := e4 z
      rw [hcmp, if_pos (by omega)] at this
      exact this
    · have q1 := jw_sg_e _ _ _ _ (s1 m (by omega)) (cd' := upd C3 (620 * β + c2) (jT_sgn (jT_K B sz t1))) (fun q z1 z2 => (jg_un (by omega)).trans (g3 q (by omega)).1)
      have q2 := jw_sg_e _ _ _ _ (s3 (m + 1) (by omega)) (cd' := upd C3 (620 * β + c2) (jT_sgn (jT_K B sz t1))) (fun q z1 z2 => jg_un (by omega))
      have q3 : jw_sg 40 (upd C3 (620 * β + c2) (jT_sgn (jT_K B sz t1))) 1 (620 * β + c2) (m + 1 + 1) (m + 1) := by
        refine Or.inr (Or.inr ?_)
        rw [jg_us]
        exact ⟨hop.1, hop.2, by omega, rfl⟩
      have q4 := jw_sg_app (c2 - c1) (620 * β + c1) (m + 1) q2 (n' := 1) (m'' := m + 1) (by rw [show 620 * β + c1 + (c2 - c1) = 620 * β + c2 by omega]; exact q3)
      have q5 := jw_sg_app (c1 - c) (620 * β + c) m q1 (n' := c2 - c1 + 1) (m'' := m + 1) (by rw [show 620 * β + c + (c1 - c) = 620 * β + c1 by omega]; exact q4)
      rw [show c2 + 1 - c = c1 - c + (c2 - c1 + 1) by omega]
      exact q5
  · refine kd e3 (fun z => ?_) m3 (jX_F_t f1 (jX_F_t f2 f3)) (jAg_t hcc g1 g3) a1 a2
    have := e4 z
    rw [hcmp, if_pos (by omega)] at this
    exact this
theorem jTB_ch {B : Nat → Int32} {sz β i lv θ2 ρ t u v c x1 t1 c1 pl : Nat} {kd : Int32} {D : Nat → Int32} (hρ4 : ρ ≠ 4) (hρ0 : 0 < ρ) (hθ2 : ρ < θ2) (hlv : lv ≤ 4) (hl3 : 3 ≤ lv + 1 → 3 < ρ ∧ ρ < 7) (hcc : c ≤ c1)
    (h1 : jTR B sz β i lv ρ (ρ + 1) t u v c x1 t1 c1 D) (hK : jT_rk (jT_K B sz t1) = ρ) (h2 : jTB B sz β i (lv + 1) θ2 (t1 + 1) (u + x1) (v + x1) c1 kd pl D) : jTB B sz β i lv ρ t u v c kd pl D := by
  intro d n0 hm C N w s P Qm hx hp ht k
  obtain ⟨p1, p2, p3, p4, p5, p6⟩ := id hp
  refine h1 d n0 hm C N w s P Qm hx hp ht (fun e1 e2 m1 C1 N1 y1 f1 g1 d1 s1 => ?_) (fun e1 => absurd (hK.symm.trans e1) hρ4)
  refine jq_push y1 p1 (by omega) (by omega) (by omega) (fun m2 y2 f2 => ?_)
  rw [hK] at y2
  refine h2 d n0 m2 C1 N1 ρ _ ((w, s) :: P) Qm y2 ⟨p1, by simp; omega, Or.inr hθ2, ?_, p5, fun q1 _ => hl3 q1⟩ d1 (fun m3 w3 f3 g3 => k m3 w3 (jX_F_t f1 (jX_F_t f2 f3)) (jAg_t hcc g1 g3))
  by_cases z : ρ ≠ 5 ∧ ρ ≠ 6
  · exact Or.inl z
  · exact Or.inr p4
/-- a relation -/
theorem jTR_rel {B : Nat → Int32} {sz β i t u v c x1 t1 c1 x2 t2 c2 : Nat} {D : Nat → Int32} (hcc : c ≤ c1) (hc1 : c1 ≤ c2) (hc : c2 < 620)
    (hn : jT_K B sz t ≠ 128) (h1 : jTR B sz β i 3 5 5 t u v c x1 t1 c1 D) (hK : jT_rk (jT_K B sz t1) = 4) (h2 : jTR B sz β i 3 5 5 (t1 + 1) (u + x1) (v + x1) c1 x2 t2 c2 D) (hx1 : 1 ≤ x1) (hD : jt_tr (D c2) (jT_sgn (jT_K B sz t1)) 0)
    (hop : jT_sgn (jT_K B sz t1) ≠ 126 ∧ ¬ (97 ≤ jT_sgn (jT_K B sz t1) ∧ jT_sgn (jT_K B sz t1) ≤ 122)) : jTR B sz β i 2 4 3 t u v c (x1 + x2) t2 (c2 + 1) D := by
  intro d n0 hm C N w s P Qm hx hp ht kn kd
  obtain ⟨p1, p2, p3, p4, p5, p6⟩ := id hp
  have hw4 : jp_cmp ((w, s) :: P) = false := by
    show (if w = 5 ∨ w = 6 then jp_cmp P else w == 4) = false
    rw [if_neg (by omega)]
    exact beq_eq_false_iff_ne.mpr (by omega)
  refine h1 d n0 hm C N w s P Qm hx ⟨p1, by omega, by omega, p4, p5, fun _ z => absurd z hn⟩ ht (fun e1 e2 m1 C1 N1 y1 f1 g1 d1 s1 => ?_) (fun e1 e2 => absurd ((e2 (by decide)).symm.trans hw4) (by decide))
  refine jq_push y1 p1 (by omega) (by omega) (by omega) (fun m2 y2 f2 => ?_)
  rw [hK] at y2
  refine h2 d n0 m2 C1 N1 4 _ ((w, s) :: P) Qm y2 ⟨p1, by simp; omega, Or.inr (by decide), Or.inl (by decide), p5, fun _ _ => ⟨by decide, by decide⟩⟩ d1 (fun e3 e4 m3 C3 N3 y3 f3 g3 d3 s3 => ?_) (fun e3 e4 m3 f3 g3 a1 a2 => ?_)
  · have hne : jT_rk (jT_K B sz t2) ≠ 4 := fun z => by
      have q := e4 z
      rw [show jp_cmp ((4, jT_sgn (jT_K B sz t1)) :: (w, s) :: P) = true from rfl] at q
      exact absurd q (by decide)
    refine jq_pop y3 p1 (by simp; omega) (by decide) (by decide) (by omega) hc (fun m4 y4 f4 => ?_)
    refine kn ?_ (fun z => absurd z hne) m4 _ _ (by rw [← Nat.add_assoc, ← Nat.add_assoc]; exact y4) (jX_F_t f1 (jX_F_t f2 (jX_F_t f3 f4))) (jAg_t hcc g1 (jAg_t hc1 g3 (jAg_u (Nat.le_refl _) hc))) (jTd_u d3 hD) (fun m hm => ?_)
    · have := jT_rk_n3 (jT_K B sz t2)
      omega
    · have q1 := jw_sg_e _ _ _ _ (s1 m (by omega)) (cd' := upd C3 (620 * β + c2) (jT_sgn (jT_K B sz t1))) (fun q z1 z2 => (jg_un (by omega)).trans (g3 q (by omega)).1)
      have q2 := jw_sg_e _ _ _ _ (s3 (m + 1) (by omega)) (cd' := upd C3 (620 * β + c2) (jT_sgn (jT_K B sz t1))) (fun q z1 z2 => jg_un (by omega))
      have q3 : jw_sg 40 (upd C3 (620 * β + c2) (jT_sgn (jT_K B sz t1))) 1 (620 * β + c2) (m + 1 + 1) (m + 1) := by
        refine Or.inr (Or.inr ?_)
        rw [jg_us]
        exact ⟨hop.1, hop.2, by omega, rfl⟩
      have q4 := jw_sg_app (c2 - c1) (620 * β + c1) (m + 1) q2 (n' := 1) (m'' := m + 1) (by rw [show 620 * β + c1 + (c2 - c1) = 620 * β + c2 by omega]; exact q3)
      have q5 := jw_sg_app (c1 - c) (620 * β + c) m q1 (n' := c2 - c1 + 1) (m'' := m + 1) (by rw [show 620 * β + c + (c1 - c) = 620 * β + c1 by omega]; exact q4)
      rw [show c2 + 1 - c = c1 - c + (c2 - c1 + 1) by omega]
      exact q5
  · exact kd e3 (fun z => absurd z (by decide)) m3 (jX_F_t f1 (jX_F_t f2 f3)) (jAg_t hcc g1 g3) a1 a2
theorem jTB_rel {B : Nat → Int32} {sz β i t u v c x1 t1 c1 pl : Nat} {kd : Int32} {D : Nat → Int32} (hcc : c ≤ c1)
    (hn : jT_K B sz t ≠ 128) (h1 : jTR B sz β i 3 5 5 t u v c x1 t1 c1 D) (hK : jT_rk (jT_K B sz t1) = 4) (h2 : jTB B sz β i 3 5 (t1 + 1) (u + x1) (v + x1) c1 kd pl D) : jTB B sz β i 2 4 t u v c kd pl D := by
  intro d n0 hm C N w s P Qm hx hp ht k
  obtain ⟨p1, p2, p3, p4, p5, p6⟩ := id hp
  have hw4 : jp_cmp ((w, s) :: P) = false := by
    show (if w = 5 ∨ w = 6 then jp_cmp P else w == 4) = false
    rw [if_neg (by omega)]
    exact beq_eq_false_iff_ne.mpr (by omega)
  refine h1 d n0 hm C N w s P Qm hx ⟨p1, by omega, by omega, p4, p5, fun _ z => absurd z hn⟩ ht (fun e1 e2 m1 C1 N1 y1 f1 g1 d1 s1 => ?_) (fun e1 e2 => absurd ((e2 (by decide)).symm.trans hw4) (by decide))
  refine jq_push y1 p1 (by omega) (by omega) (by omega) (fun m2 y2 f2 => ?_)
  rw [hK] at y2
  exact h2 d n0 m2 C1 N1 4 _ ((w, s) :: P) Qm y2 ⟨p1, by simp; omega, Or.inr (by decide), Or.inl (by decide), p5, fun _ _ => ⟨by decide, by decide⟩⟩ d1 (fun m3 w3 f3 g3 => k m3 w3 (jX_F_t f1 (jX_F_t f2 f3)) (jAg_t hcc g1 g3))
/-- a sum alone -/
theorem jTR_sum {B : Nat → Int32} {sz β i t u v c x t' c' : Nat} {D : Nat → Int32} (h : jTR B sz β i 3 5 5 t u v c x t' c' D) (hK : jT_rk (jT_K B sz t') ≠ 4) (hn : jT_K B sz t ≠ 128) : jTR B sz β i 2 4 3 t u v c x t' c' D :=
  jTR_up (by decide) (by decide) (fun _ _ => hn) (jTR_mu h (fun z => by have := jT_rk_n3 (jT_K B sz t'); omega) (fun z => absurd z hK))
/-- not -/
theorem jTR_not {B : Nat → Int32} {sz β i t u v c x t1 c1 : Nat} {D : Nat → Int32} (hK : jT_K B sz t = 128) (hi : i < 7) (hu : u ≤ 90) (hv : v ≤ 30) (hcc : c ≤ c1) (hc : c1 < 620) (hx1 : 1 ≤ x) (h : jTR B sz β (i + 1) 2 4 3 (t + 1) u v c x t1 c1 D) (hD : jt_tr (D c1) 126 0) : jTR B sz β i 2 4 3 t u v c x t1 (c1 + 1) D := by
  intro d n0 hm C N w s P Qm hx hp ht kn kd
  obtain ⟨p1, p2, p3, p4, p5, p6⟩ := id hp
  refine jq_ut hx p1 (by omega) hK (by omega) hi hu hv (fun h1 x1 f1 => ?_)
  refine h d n0 h1 C N 3 126 ((w, s) :: P) Qm x1 ⟨p1, by simp; omega, Or.inr (by decide), Or.inl (by decide), by omega, fun z => absurd z (by decide)⟩ ht (fun e1 e2 h2 C2 N2 x2 f2 g2 t2 s2 => ?_) (fun e1 e2 h2 f2 g2 a1 a2 => kd e1 (fun z => absurd z (by decide)) h2 (jX_F_t f1 f2) g2 a1 a2)
  refine jq_popn x2 p1 (by simp; omega) rfl (by omega) (by omega) hc (fun h3 x3 f3 => ?_)
  refine kn e1 (fun z => by omega) h3 _ _ x3 (jX_F_t f1 (jX_F_t f2 f3)) (jAg_t hcc g2 (jAg_u (Nat.le_refl _) hc)) (jTd_u t2 hD) (fun m hm => ?_)
  have q1 := jw_sg_e _ _ _ _ (s2 m (by omega)) (cd' := upd C2 (620 * β + c1) 126) (fun q z1 z2 => jg_un (by omega))
  have q3 : jw_sg 40 (upd C2 (620 * β + c1) 126) 1 (620 * β + c1) (m + 1) (m + 1) := by
    refine Or.inl ?_
    rw [jg_us]
    exact ⟨rfl, by omega, rfl⟩
  have q5 := jw_sg_app (c1 - c) (620 * β + c) m q1 (n' := 1) (m'' := m + 1) (by rw [show 620 * β + c + (c1 - c) = 620 * β + c1 by omega]; exact q3)
  rw [show c1 + 1 - c = c1 - c + 1 by omega]
  exact q5
theorem jTB_not {B : Nat → Int32} {sz β i t u v c pl : Nat} {kd : Int32} {D : Nat → Int32} (hK : jT_K B sz t = 128) (hi : i < 7) (hu : u ≤ 90) (hv : v ≤ 30) (h : jTB B sz β (i + 1) 2 4 (t + 1) u v c kd pl D) : jTB B sz β i 2 4 t u v c kd pl D := by
  intro d n0 hm C N w s P Qm hx hp ht k
  obtain ⟨p1, p2, p3, p4, p5, p6⟩ := id hp
  refine jq_ut hx p1 (by omega) hK (by omega) hi hu hv (fun h1 x1 f1 => ?_)
  exact h d n0 h1 C N 3 126 ((w, s) :: P) Qm x1 ⟨p1, by simp; omega, Or.inr (by decide), Or.inl (by decide), by omega, fun z => absurd z (by decide)⟩ ht (fun hm' w' f' => k hm' w' (jX_F_t f1 f'))
