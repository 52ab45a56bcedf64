def jx_push (r : Option jx_V) (st : List jx_V) : List jx_V := match r with
  | some v => v :: st
  | none => st
def jx_sc : List jx_V → Nat
  | [] => 0
  | .inr (.inl _) :: l => jx_sc l + 2
  | .inl _ :: l => jx_sc l + 1
  | .inr (.inr _) :: l => jx_sc l + 1
theorem jx_sc_cat (sd : Nat) (g : jx_E) : ∀ st : List jx_V, ((st.map (jx_cv sd g)).map fun v => v.category).sum = jx_sc st
  | [] => rfl
  | .inr (.inl x) :: l => by
    have h := jx_sc_cat sd g l
    simp only [List.map_cons, List.sum_cons, jx_sc, h]
    show 2 + _ = _
    omega
  | .inl x :: l => by
    have h := jx_sc_cat sd g l
    simp only [List.map_cons, List.sum_cons, jx_sc, h]
    show 1 + _ = _
    omega
  | .inr (.inr x) :: l => by
    have h := jx_sc_cat sd g l
    have hc : (jx_cv sd g (.inr (.inr x))).category = 1 := jx_c1 sd g (fun _ z => by cases z)
    simp only [List.map_cons, List.sum_cons, jx_sc, h, hc]
    omega
theorem jx_vs_app {sd n : Nat} : ∀ {a b : List jx_V}, jx_vs sd n (a ++ b) ↔ jx_vs sd n a ∧ jx_vs sd n b
  | [], b => by simp [jx_vs]
  | v :: a, b => by
    show jx_lv sd n v ∧ jx_vs sd n (a ++ b) ↔ (jx_lv sd n v ∧ jx_vs sd n a) ∧ jx_vs sd n b
    rw [jx_vs_app, and_assoc]
theorem jx_vs_rev {sd n : Nat} : ∀ {a : List jx_V}, jx_vs sd n a.reverse ↔ jx_vs sd n a
  | [] => Iff.rfl
  | v :: a => by
    rw [List.reverse_cons, jx_vs_app, jx_vs_rev]
    show jx_vs sd n a ∧ (jx_lv sd n v ∧ True) ↔ jx_lv sd n v ∧ jx_vs sd n a
    rw [and_true, and_comm]
theorem jx_lr_mono {sd n n' k i : Nat} (hn : n ≤ n') (h : jx_lr sd n k i) : jx_lr sd n' k i := by
  rcases h with h | h | h | ⟨q, hq, h⟩
  · exact Or.inl h
  · exact Or.inr (Or.inl h)
  · exact Or.inr (Or.inr (Or.inl h))
  · exact Or.inr (Or.inr (Or.inr ⟨q, by omega, h⟩))
theorem jx_lv_mono {sd n n' : Nat} (hn : n ≤ n') : ∀ {v : jx_V}, jx_lv sd n v → jx_lv sd n' v
  | .inl _, _ => trivial
  | .inr (.inl _), _ => trivial
  | .inr (.inr (_, _)), h => jx_lr_mono hn h
theorem jx_vs_mono {sd n n' : Nat} (hn : n ≤ n') : ∀ {a : List jx_V}, jx_vs sd n a → jx_vs sd n' a
  | [], _ => trivial
  | _ :: _, h => ⟨jx_lv_mono hn h.1, jx_vs_mono hn h.2⟩
theorem jx_vl_mono {sd n n' : Nat} (hn : n ≤ n') : ∀ {a : List (Option jx_V)}, jx_vl sd n a → jx_vl sd n' a
  | [], _ => trivial
  | none :: a, h => jx_vl_mono (a := a) hn (show jx_vl sd n a from h)
  | some _ :: _, h => ⟨jx_lv_mono hn h.1, jx_vl_mono hn h.2⟩
/-- behind a call -/
theorem jx_after {T : jx_P} {Q Q' : Option jx_V → jx_H → Prop} {kc ks n pc d' mc' ms' : Nat} {Y' : jx_M} {ls : List (Option jx_V)} {st : List jx_V} {h : jx_H} {g : jx_E} {p : Program} {l : Launch} {e : Env} {R : Room} {s : State} {m : MethodId} {args a : Array Value} {below : List Frame} {meth : Method} {c : Code} {H : Heap} {locs : List Loc} {lr : Array Slot} {st0 : List Value}
    (C : jx_cx T g p R s m args meth c) (S : va_S (jx_A (jt_sd T) (jt_al T) g) s.heap H locs) (L : lv_has lr (jt_Y T).2.2.1 (jx_as (jx_cv (jt_sd T) g) ls 0) ∧ ls.length = (jt_Y T).2.2.1) (V : jx_vl (jt_sd T) (jh_n h) ls) (St : jx_vs (jt_sd T) (jh_n h) st) (N0 : jt_n0 T ≤ jh_n h) (hp : jx_at (jm_q (jt_Y T)) (n + 1) = some (pc + 3))
    (hr : va_Run p l e R s m args below meth c H locs kc ks mc' ms' (F0 m pc lr st0) (st.map (jx_cv (jt_sd T) g)) (jx_Qc (Y', d', mc', ms', jt_al T, jt_sd T, jh_n h) g Q' a) (jx_A (jt_sd T) (jt_al T) g))
    (k : ∀ r h', Q' r h' → jx_W T Q (kc + mc') (ks + ms') (n + 1) ls (jx_push r st) h') :
    W p l e R s m args below meth c H locs kc ks (MQ below (jx_Qc T g Q) args s (jt_mc T) (jt_ms T) (jx_A (jt_sd T) (jt_al T) g)) (F0 m pc lr st0) := by
  intro T0 hT X
  obtain ⟨v, st₀, t, T', Lc, h0, X', hL, e1, e2, ⟨⟨r, h', hv, hq, hRp, hrv, hn0, -⟩, hz, hk⟩, stp⟩ := hr T0 hT X
  have hn0 : jh_n h ≤ jh_n h' := hn0
  cases hv
  rw [h0] at hz hk
  have hs' : jx_vs (jt_sd T) (jh_n h') (jx_push r st) := by
    cases r with
    | none => exact jx_vs_mono hn0 St
    | some v => exact ⟨hrv v rfl, jx_vs_mono hn0 St⟩
  obtain ⟨t2, a1, b1⟩ := k r h' hq g p l e R s m args below meth c C T'.heap (locs ++ Lc) lr (pc + 3) (by rw [e1]; exact hRp)
    ⟨Nat.le_trans S.1 (by rw [e1]; exact hz), fun q h1 h2 => by rw [e1, hk q (Nat.lt_of_lt_of_le h1 S.1) h2]; exact S.2.1 q h1 h2, fun q hq => by
      rcases List.mem_append.mp hq with h | h
      · exact S.2.2 q h
      · exact hL q h⟩ L (jx_vl_mono hn0 V) hs' (Nat.le_trans N0 hn0) hp T' rfl X'
  refine ⟨t2, stp t2 ?_, b1⟩
  cases r <;> exact a1
theorem jx_room {d d' mc ms mc' ms' maxL : Nat} (hd : d' + 1 = d) (hm : maxL ≤ 41) : (jx_rm d' mc' ms').frames + 1 ≤ (jx_rm d mc ms).frames ∧ 8 + (maxL + 11) + (jx_rm d' mc' ms').locals ≤ (jx_rm d mc ms).locals := by
  subst hd
  exact ⟨Nat.le_refl _, by show 8 + (maxL + 11) + (60 * d' + 60) ≤ 60 * (d' + 1) + 60; omega⟩
theorem jr_iret {T : jx_P} {Q : Option jx_V → jx_H → Prop} {kc ks n : Nat} {ls : List (Option jx_V)} {h : jx_H} {x : Int32} (hc : jx_at (jm_k (jt_Y T)) n = some (jx_o 90)) (hrt : (jt_Y T).2.2.2.1 = some .int) (hk1 : kc ≤ jt_mc T) (hk2 : ks ≤ jt_ms T) (hq : Q (some (jv_i x)) h) : jx_W T Q kc ks n ls [jv_i x] h := by
  intro g p l e R s mI args below meth c C H locs lr pc Rp S L V St N0 hp
  obtain ⟨hx, hb, hml, hr, hown, hts, hlk, hnm, hK, hE, hg1, hR, hck, hal⟩ := id C
  obtain ⟨hd, hnx, hsd⟩ := jx_step hck hc rfl hp
  refine W.widen hk1 hk2 ?_
  exact W.iret hx hb (by rw [hr]; exact hrt) (fun t ht hW => ⟨⟨(some (jv_i x)), h, rfl, hq, by rw [ht]; exact Rp, fun v hv => (by cases hv; exact trivial), N0, fun _ => ⟨_, rfl⟩⟩, S.F ht⟩) S.2.2 hd hlk
theorem jr_zret {T : jx_P} {Q : Option jx_V → jx_H → Prop} {kc ks n : Nat} {ls : List (Option jx_V)} {h : jx_H} {x : Int32} {ty : FieldType} (hc : jx_at (jm_k (jt_Y T)) n = some (jx_o 90)) (hrt : (jt_Y T).2.2.2.1 = some ty) (hnr : narrow ty (.int x) = .int x) (hk1 : kc ≤ jt_mc T) (hk2 : ks ≤ jt_ms T) (hq : Q (some (jv_i x)) h) : jx_W T Q kc ks n ls [jv_i x] h := by
  intro g p l e R s mI args below meth c C H locs lr pc Rp S L V St N0 hp
  obtain ⟨hx, hb, hml, hr, hown, hts, hlk, hnm, hK, hE, hg1, hR, hck, hal⟩ := id C
  obtain ⟨hd, hnx, hsd⟩ := jx_step hck hc rfl hp
  refine W.widen hk1 hk2 ?_
  exact W.zret hx hb (by rw [hr]; exact hrt) hnr (fun t ht hW => ⟨⟨(some (jv_i x)), h, rfl, hq, by rw [ht]; exact Rp, fun v hv => (by cases hv; exact trivial), N0, fun _ => ⟨_, rfl⟩⟩, S.F ht⟩) S.2.2 hd hlk
theorem jr_lret {T : jx_P} {Q : Option jx_V → jx_H → Prop} {kc ks n : Nat} {ls : List (Option jx_V)} {h : jx_H} {x : Int64} (hc : jx_at (jm_k (jt_Y T)) n = some (jx_o 91)) (hrt : (jt_Y T).2.2.2.1 = some .long) (hk1 : kc ≤ jt_mc T) (hk2 : ks ≤ jt_ms T) (hq : Q (some (jv_l x)) h) : jx_W T Q kc ks n ls [jv_l x] h := by
  intro g p l e R s mI args below meth c C H locs lr pc Rp S L V St N0 hp
  obtain ⟨hx, hb, hml, hr, hown, hts, hlk, hnm, hK, hE, hg1, hR, hck, hal⟩ := id C
  obtain ⟨hd, hnx, hsd⟩ := jx_step hck hc rfl hp
  refine W.widen hk1 hk2 ?_
  exact W.lret hx hb (by rw [hr]; exact hrt) (fun t ht hW => ⟨⟨(some (jv_l x)), h, rfl, hq, by rw [ht]; exact Rp, fun v hv => (by cases hv; exact trivial), N0, jx_trn hrt (by decide) (by decide)⟩, S.F ht⟩) S.2.2 hd hlk
theorem jr_vret {T : jx_P} {Q : Option jx_V → jx_H → Prop} {kc ks n : Nat} {ls : List (Option jx_V)} {h : jx_H}  (hc : jx_at (jm_k (jt_Y T)) n = some (jx_o 93)) (hrt : (jt_Y T).2.2.2.1 = none) (hk1 : kc ≤ jt_mc T) (hk2 : ks ≤ jt_ms T) (hq : Q none h) : jx_W T Q kc ks n ls [] h := by
  intro g p l e R s mI args below meth c C H locs lr pc Rp S L V St N0 hp
  obtain ⟨hx, hb, hml, hr, hown, hts, hlk, hnm, hK, hE, hg1, hR, hck, hal⟩ := id C
  obtain ⟨hd, hnx, hsd⟩ := jx_step hck hc rfl hp
  refine W.widen hk1 hk2 ?_
  exact W.vret hx hb (by rw [hr]; exact hrt) (fun t ht hW => ⟨⟨none, h, rfl, hq, by rw [ht]; exact Rp, fun v hv => (by cases hv), N0, jx_trn hrt (by decide) (by decide)⟩, S.F ht⟩) S.2.2 hd hlk
theorem jr_aret {T : jx_P} {Q : Option jx_V → jx_H → Prop} {kc ks n : Nat} {ls : List (Option jx_V)} {h : jx_H} {a i : Nat} {rt : FieldType} (hc : jx_at (jm_k (jt_Y T)) n = some (jx_o 92)) (hrt : (jt_Y T).2.2.2.1 = some rt) (hrr : jx_isr rt = true) (hk1 : kc ≤ jt_mc T) (hk2 : ks ≤ jt_ms T) (hq : Q (some (jv_r a i)) h) : jx_W T Q kc ks n ls [jv_r a i] h := by
  intro g p l e R s mI args below meth c C H locs lr pc Rp S L V St N0 hp
  obtain ⟨hx, hb, hml, hr, hown, hts, hlk, hnm, hK, hE, hg1, hR, hck, hal⟩ := id C
  obtain ⟨hd, hnx, hsd⟩ := jx_step hck hc rfl hp
  refine W.widen hk1 hk2 ?_
  exact W.aret hx hb (by rw [hr]; exact hrt) (by cases rt <;> first | exact Or.inl ⟨_, rfl⟩ | exact Or.inr ⟨_, rfl⟩ | cases hrr) (jx_rv_cases _ g a i) (fun t ht hW => ⟨⟨(some (jv_r a i)), h, rfl, hq, by rw [ht]; exact Rp, fun v hv => (by cases hv; exact St.1), N0, fun z => by rw [hrt] at z; rcases z with z | z <;> (cases z; exact absurd hrr (by decide))⟩, S.F ht⟩) S.2.2 hd hlk
