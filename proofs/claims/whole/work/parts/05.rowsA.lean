theorem jr_iadd {T : jx_P} {Q : Option jx_V → jx_H → Prop} {kc ks n : Nat} {ls : List (Option jx_V)} {st : List jx_V} {h : jx_H} {x y : Int32} (hc : jx_at (jm_k (jt_Y T)) n = some (jx_o 20)) (k : jx_W T Q kc ks (n + 1) ls (jv_i (x + y) :: st) h) : jx_W T Q kc ks n ls (jv_i y :: jv_i x :: st) h := by
  intro g p l e R s mI args below meth c C H locs lr pc Rp S L V St N0 hp
  obtain ⟨hx, hb, hml, hr, hown, hts, hlk, hnm, hK, hE, hg1, hR, hck, hal⟩ := id C
  obtain ⟨hd, hnx, hsd⟩ := jx_step hck hc rfl hp
  exact lv_iadd hx hb hd (k g p l e R s mI args below meth c C H locs lr _ Rp S L V ⟨trivial, St.2.2⟩ N0 (hnx rfl))
theorem jr_isub {T : jx_P} {Q : Option jx_V → jx_H → Prop} {kc ks n : Nat} {ls : List (Option jx_V)} {st : List jx_V} {h : jx_H} {x y : Int32} (hc : jx_at (jm_k (jt_Y T)) n = some (jx_o 21)) (k : jx_W T Q kc ks (n + 1) ls (jv_i (x - y) :: st) h) : jx_W T Q kc ks n ls (jv_i y :: jv_i x :: st) h := by
  intro g p l e R s mI args below meth c C H locs lr pc Rp S L V St N0 hp
  obtain ⟨hx, hb, hml, hr, hown, hts, hlk, hnm, hK, hE, hg1, hR, hck, hal⟩ := id C
  obtain ⟨hd, hnx, hsd⟩ := jx_step hck hc rfl hp
  exact lv_isub hx hb hd (k g p l e R s mI args below meth c C H locs lr _ Rp S L V ⟨trivial, St.2.2⟩ N0 (hnx rfl))
theorem jr_imul {T : jx_P} {Q : Option jx_V → jx_H → Prop} {kc ks n : Nat} {ls : List (Option jx_V)} {st : List jx_V} {h : jx_H} {x y : Int32} (hc : jx_at (jm_k (jt_Y T)) n = some (jx_o 22)) (k : jx_W T Q kc ks (n + 1) ls (jv_i (x * y) :: st) h) : jx_W T Q kc ks n ls (jv_i y :: jv_i x :: st) h := by
  intro g p l e R s mI args below meth c C H locs lr pc Rp S L V St N0 hp
  obtain ⟨hx, hb, hml, hr, hown, hts, hlk, hnm, hK, hE, hg1, hR, hck, hal⟩ := id C
  obtain ⟨hd, hnx, hsd⟩ := jx_step hck hc rfl hp
  exact lv_imul hx hb hd (k g p l e R s mI args below meth c C H locs lr _ Rp S L V ⟨trivial, St.2.2⟩ N0 (hnx rfl))
theorem jr_iand {T : jx_P} {Q : Option jx_V → jx_H → Prop} {kc ks n : Nat} {ls : List (Option jx_V)} {st : List jx_V} {h : jx_H} {x y : Int32} (hc : jx_at (jm_k (jt_Y T)) n = some (jx_o 23)) (k : jx_W T Q kc ks (n + 1) ls (jv_i (x &&& y) :: st) h) : jx_W T Q kc ks n ls (jv_i y :: jv_i x :: st) h := by
  intro g p l e R s mI args below meth c C H locs lr pc Rp S L V St N0 hp
  obtain ⟨hx, hb, hml, hr, hown, hts, hlk, hnm, hK, hE, hg1, hR, hck, hal⟩ := id C
  obtain ⟨hd, hnx, hsd⟩ := jx_step hck hc rfl hp
  exact lv_iand hx hb hd (k g p l e R s mI args below meth c C H locs lr _ Rp S L V ⟨trivial, St.2.2⟩ N0 (hnx rfl))
theorem jr_ior {T : jx_P} {Q : Option jx_V → jx_H → Prop} {kc ks n : Nat} {ls : List (Option jx_V)} {st : List jx_V} {h : jx_H} {x y : Int32} (hc : jx_at (jm_k (jt_Y T)) n = some (jx_o 24)) (k : jx_W T Q kc ks (n + 1) ls (jv_i (x ||| y) :: st) h) : jx_W T Q kc ks n ls (jv_i y :: jv_i x :: st) h := by
  intro g p l e R s mI args below meth c C H locs lr pc Rp S L V St N0 hp
  obtain ⟨hx, hb, hml, hr, hown, hts, hlk, hnm, hK, hE, hg1, hR, hck, hal⟩ := id C
  obtain ⟨hd, hnx, hsd⟩ := jx_step hck hc rfl hp
  exact lv_ior hx hb hd (k g p l e R s mI args below meth c C H locs lr _ Rp S L V ⟨trivial, St.2.2⟩ N0 (hnx rfl))
theorem jr_ixor {T : jx_P} {Q : Option jx_V → jx_H → Prop} {kc ks n : Nat} {ls : List (Option jx_V)} {st : List jx_V} {h : jx_H} {x y : Int32} (hc : jx_at (jm_k (jt_Y T)) n = some (jx_o 25)) (k : jx_W T Q kc ks (n + 1) ls (jv_i (x ^^^ y) :: st) h) : jx_W T Q kc ks n ls (jv_i y :: jv_i x :: st) h := by
  intro g p l e R s mI args below meth c C H locs lr pc Rp S L V St N0 hp
  obtain ⟨hx, hb, hml, hr, hown, hts, hlk, hnm, hK, hE, hg1, hR, hck, hal⟩ := id C
  obtain ⟨hd, hnx, hsd⟩ := jx_step hck hc rfl hp
  exact lv_ixor hx hb hd (k g p l e R s mI args below meth c C H locs lr _ Rp S L V ⟨trivial, St.2.2⟩ N0 (hnx rfl))
theorem jr_ishl {T : jx_P} {Q : Option jx_V → jx_H → Prop} {kc ks n : Nat} {ls : List (Option jx_V)} {st : List jx_V} {h : jx_H} {x y : Int32} (hc : jx_at (jm_k (jt_Y T)) n = some (jx_o 26)) (k : jx_W T Q kc ks (n + 1) ls (jv_i (x <<< (y &&& 31)) :: st) h) : jx_W T Q kc ks n ls (jv_i y :: jv_i x :: st) h := by
  intro g p l e R s mI args below meth c C H locs lr pc Rp S L V St N0 hp
  obtain ⟨hx, hb, hml, hr, hown, hts, hlk, hnm, hK, hE, hg1, hR, hck, hal⟩ := id C
  obtain ⟨hd, hnx, hsd⟩ := jx_step hck hc rfl hp
  exact lv_ishl hx hb hd (k g p l e R s mI args below meth c C H locs lr _ Rp S L V ⟨trivial, St.2.2⟩ N0 (hnx rfl))
theorem jr_ishr {T : jx_P} {Q : Option jx_V → jx_H → Prop} {kc ks n : Nat} {ls : List (Option jx_V)} {st : List jx_V} {h : jx_H} {x y : Int32} (hc : jx_at (jm_k (jt_Y T)) n = some (jx_o 27)) (k : jx_W T Q kc ks (n + 1) ls (jv_i (x >>> (y &&& 31)) :: st) h) : jx_W T Q kc ks n ls (jv_i y :: jv_i x :: st) h := by
  intro g p l e R s mI args below meth c C H locs lr pc Rp S L V St N0 hp
  obtain ⟨hx, hb, hml, hr, hown, hts, hlk, hnm, hK, hE, hg1, hR, hck, hal⟩ := id C
  obtain ⟨hd, hnx, hsd⟩ := jx_step hck hc rfl hp
  exact lv_ishr hx hb hd (k g p l e R s mI args below meth c C H locs lr _ Rp S L V ⟨trivial, St.2.2⟩ N0 (hnx rfl))
theorem jr_iushr {T : jx_P} {Q : Option jx_V → jx_H → Prop} {kc ks n : Nat} {ls : List (Option jx_V)} {st : List jx_V} {h : jx_H} {x y : Int32} (hc : jx_at (jm_k (jt_Y T)) n = some (jx_o 28)) (k : jx_W T Q kc ks (n + 1) ls (jv_i ((x.toUInt32 >>> (y.toUInt32 &&& Int32.toUInt32 31)).toInt32) :: st) h) : jx_W T Q kc ks n ls (jv_i y :: jv_i x :: st) h := by
  intro g p l e R s mI args below meth c C H locs lr pc Rp S L V St N0 hp
  obtain ⟨hx, hb, hml, hr, hown, hts, hlk, hnm, hK, hE, hg1, hR, hck, hal⟩ := id C
  obtain ⟨hd, hnx, hsd⟩ := jx_step hck hc rfl hp
  exact lv_iushr hx hb hd rfl (k g p l e R s mI args below meth c C H locs lr _ Rp S L V ⟨trivial, St.2.2⟩ N0 (hnx rfl))
theorem jr_ineg {T : jx_P} {Q : Option jx_V → jx_H → Prop} {kc ks n : Nat} {ls : List (Option jx_V)} {st : List jx_V} {h : jx_H} {x : Int32} (hc : jx_at (jm_k (jt_Y T)) n = some (jx_o 29)) (k : jx_W T Q kc ks (n + 1) ls (jv_i (-x) :: st) h) : jx_W T Q kc ks n ls (jv_i x :: st) h := by
  intro g p l e R s mI args below meth c C H locs lr pc Rp S L V St N0 hp
  obtain ⟨hx, hb, hml, hr, hown, hts, hlk, hnm, hK, hE, hg1, hR, hck, hal⟩ := id C
  obtain ⟨hd, hnx, hsd⟩ := jx_step hck hc rfl hp
  exact lv_ineg hx hb hd (k g p l e R s mI args below meth c C H locs lr _ Rp S L V ⟨trivial, St.2⟩ N0 (hnx rfl))
theorem jr_idiv {T : jx_P} {Q : Option jx_V → jx_H → Prop} {kc ks n : Nat} {ls : List (Option jx_V)} {st : List jx_V} {h : jx_H} {x y : Int32} (hc : jx_at (jm_k (jt_Y T)) n = some (jx_o 30)) (hne : ¬ y = 0) (k : jx_W T Q kc ks (n + 1) ls (jv_i (x / y) :: st) h) : jx_W T Q kc ks n ls (jv_i y :: jv_i x :: st) h := by
  intro g p l e R s mI args below meth c C H locs lr pc Rp S L V St N0 hp
  obtain ⟨hx, hb, hml, hr, hown, hts, hlk, hnm, hK, hE, hg1, hR, hck, hal⟩ := id C
  obtain ⟨hd, hnx, hsd⟩ := jx_step hck hc rfl hp
  exact lv_idiv hx hb hd hne (k g p l e R s mI args below meth c C H locs lr _ Rp S L V ⟨trivial, St.2.2⟩ N0 (hnx rfl))
theorem jr_irem {T : jx_P} {Q : Option jx_V → jx_H → Prop} {kc ks n : Nat} {ls : List (Option jx_V)} {st : List jx_V} {h : jx_H} {x y : Int32} (hc : jx_at (jm_k (jt_Y T)) n = some (jx_o 31)) (hne : ¬ y = 0) (k : jx_W T Q kc ks (n + 1) ls (jv_i (x - x / y * y) :: st) h) : jx_W T Q kc ks n ls (jv_i y :: jv_i x :: st) h := by
  intro g p l e R s mI args below meth c C H locs lr pc Rp S L V St N0 hp
  obtain ⟨hx, hb, hml, hr, hown, hts, hlk, hnm, hK, hE, hg1, hR, hck, hal⟩ := id C
  obtain ⟨hd, hnx, hsd⟩ := jx_step hck hc rfl hp
  exact lv_irem hx hb hd hne (k g p l e R s mI args below meth c C H locs lr _ Rp S L V ⟨trivial, St.2.2⟩ N0 (hnx rfl))
theorem jr_ladd {T : jx_P} {Q : Option jx_V → jx_H → Prop} {kc ks n : Nat} {ls : List (Option jx_V)} {st : List jx_V} {h : jx_H} {x y : Int64} (hc : jx_at (jm_k (jt_Y T)) n = some (jx_o 32)) (k : jx_W T Q kc ks (n + 1) ls (jv_l (x + y) :: st) h) : jx_W T Q kc ks n ls (jv_l y :: jv_l x :: st) h := by
  intro g p l e R s mI args below meth c C H locs lr pc Rp S L V St N0 hp
  obtain ⟨hx, hb, hml, hr, hown, hts, hlk, hnm, hK, hE, hg1, hR, hck, hal⟩ := id C
  obtain ⟨hd, hnx, hsd⟩ := jx_step hck hc rfl hp
  exact lv_ladd hx hb hd (k g p l e R s mI args below meth c C H locs lr _ Rp S L V ⟨trivial, St.2.2⟩ N0 (hnx rfl))
theorem jr_lmul {T : jx_P} {Q : Option jx_V → jx_H → Prop} {kc ks n : Nat} {ls : List (Option jx_V)} {st : List jx_V} {h : jx_H} {x y : Int64} (hc : jx_at (jm_k (jt_Y T)) n = some (jx_o 33)) (k : jx_W T Q kc ks (n + 1) ls (jv_l (x * y) :: st) h) : jx_W T Q kc ks n ls (jv_l y :: jv_l x :: st) h := by
  intro g p l e R s mI args below meth c C H locs lr pc Rp S L V St N0 hp
  obtain ⟨hx, hb, hml, hr, hown, hts, hlk, hnm, hK, hE, hg1, hR, hck, hal⟩ := id C
  obtain ⟨hd, hnx, hsd⟩ := jx_step hck hc rfl hp
  exact lv_lmul hx hb hd (k g p l e R s mI args below meth c C H locs lr _ Rp S L V ⟨trivial, St.2.2⟩ N0 (hnx rfl))
theorem jr_lor {T : jx_P} {Q : Option jx_V → jx_H → Prop} {kc ks n : Nat} {ls : List (Option jx_V)} {st : List jx_V} {h : jx_H} {x y : Int64} (hc : jx_at (jm_k (jt_Y T)) n = some (jx_o 34)) (k : jx_W T Q kc ks (n + 1) ls (jv_l (x ||| y) :: st) h) : jx_W T Q kc ks n ls (jv_l y :: jv_l x :: st) h := by
  intro g p l e R s mI args below meth c C H locs lr pc Rp S L V St N0 hp
  obtain ⟨hx, hb, hml, hr, hown, hts, hlk, hnm, hK, hE, hg1, hR, hck, hal⟩ := id C
  obtain ⟨hd, hnx, hsd⟩ := jx_step hck hc rfl hp
  exact lv_lor hx hb hd (k g p l e R s mI args below meth c C H locs lr _ Rp S L V ⟨trivial, St.2.2⟩ N0 (hnx rfl))
theorem jr_lshl {T : jx_P} {Q : Option jx_V → jx_H → Prop} {kc ks n : Nat} {ls : List (Option jx_V)} {st : List jx_V} {h : jx_H} {x : Int64} {y : Int32} (hc : jx_at (jm_k (jt_Y T)) n = some (jx_o 35)) (k : jx_W T Q kc ks (n + 1) ls (jv_l (x <<< (y.toInt64 &&& 63)) :: st) h) : jx_W T Q kc ks n ls (jv_i y :: jv_l x :: st) h := by
  intro g p l e R s mI args below meth c C H locs lr pc Rp S L V St N0 hp
  obtain ⟨hx, hb, hml, hr, hown, hts, hlk, hnm, hK, hE, hg1, hR, hck, hal⟩ := id C
  obtain ⟨hd, hnx, hsd⟩ := jx_step hck hc rfl hp
  exact lv_lshl hx hb hd rfl (k g p l e R s mI args below meth c C H locs lr _ Rp S L V ⟨trivial, St.2.2⟩ N0 (hnx rfl))
theorem jr_i2l {T : jx_P} {Q : Option jx_V → jx_H → Prop} {kc ks n : Nat} {ls : List (Option jx_V)} {st : List jx_V} {h : jx_H} {x : Int32} (hc : jx_at (jm_k (jt_Y T)) n = some (jx_o 36)) (k : jx_W T Q kc ks (n + 1) ls (jv_l x.toInt64 :: st) h) : jx_W T Q kc ks n ls (jv_i x :: st) h := by
  intro g p l e R s mI args below meth c C H locs lr pc Rp S L V St N0 hp
  obtain ⟨hx, hb, hml, hr, hown, hts, hlk, hnm, hK, hE, hg1, hR, hck, hal⟩ := id C
  obtain ⟨hd, hnx, hsd⟩ := jx_step hck hc rfl hp
  exact lv_i2l hx hb hd rfl (k g p l e R s mI args below meth c C H locs lr _ Rp S L V ⟨trivial, St.2⟩ N0 (hnx rfl))
theorem jr_l2i {T : jx_P} {Q : Option jx_V → jx_H → Prop} {kc ks n : Nat} {ls : List (Option jx_V)} {st : List jx_V} {h : jx_H} {x : Int64} (hc : jx_at (jm_k (jt_Y T)) n = some (jx_o 37)) (k : jx_W T Q kc ks (n + 1) ls (jv_i x.toInt32 :: st) h) : jx_W T Q kc ks n ls (jv_l x :: st) h := by
  intro g p l e R s mI args below meth c C H locs lr pc Rp S L V St N0 hp
  obtain ⟨hx, hb, hml, hr, hown, hts, hlk, hnm, hK, hE, hg1, hR, hck, hal⟩ := id C
  obtain ⟨hd, hnx, hsd⟩ := jx_step hck hc rfl hp
  exact lv_l2i hx hb hd rfl (k g p l e R s mI args below meth c C H locs lr _ Rp S L V ⟨trivial, St.2⟩ N0 (hnx rfl))
theorem jr_i2b {T : jx_P} {Q : Option jx_V → jx_H → Prop} {kc ks n : Nat} {ls : List (Option jx_V)} {st : List jx_V} {h : jx_H} {x : Int32} (hc : jx_at (jm_k (jt_Y T)) n = some (jx_o 38)) (k : jx_W T Q kc ks (n + 1) ls (jv_i x.toInt8.toInt32 :: st) h) : jx_W T Q kc ks n ls (jv_i x :: st) h := by
  intro g p l e R s mI args below meth c C H locs lr pc Rp S L V St N0 hp
  obtain ⟨hx, hb, hml, hr, hown, hts, hlk, hnm, hK, hE, hg1, hR, hck, hal⟩ := id C
  obtain ⟨hd, hnx, hsd⟩ := jx_step hck hc rfl hp
  exact lv_i2b hx hb hd rfl (k g p l e R s mI args below meth c C H locs lr _ Rp S L V ⟨trivial, St.2⟩ N0 (hnx rfl))
theorem jr_i2c {T : jx_P} {Q : Option jx_V → jx_H → Prop} {kc ks n : Nat} {ls : List (Option jx_V)} {st : List jx_V} {h : jx_H} {x : Int32} (hc : jx_at (jm_k (jt_Y T)) n = some (jx_o 39)) (k : jx_W T Q kc ks (n + 1) ls (jv_i (x.toUInt32 % 65536).toInt32 :: st) h) : jx_W T Q kc ks n ls (jv_i x :: st) h := by
  intro g p l e R s mI args below meth c C H locs lr pc Rp S L V St N0 hp
  obtain ⟨hx, hb, hml, hr, hown, hts, hlk, hnm, hK, hE, hg1, hR, hck, hal⟩ := id C
  obtain ⟨hd, hnx, hsd⟩ := jx_step hck hc rfl hp
  exact lv_i2c hx hb hd rfl (k g p l e R s mI args below meth c C H locs lr _ Rp S L V ⟨trivial, St.2⟩ N0 (hnx rfl))
theorem jr_lcmp {T : jx_P} {Q : Option jx_V → jx_H → Prop} {kc ks n : Nat} {ls : List (Option jx_V)} {st : List jx_V} {h : jx_H} {x y : Int64} (hc : jx_at (jm_k (jt_Y T)) n = some (jx_o 40)) (k : jx_W T Q kc ks (n + 1) ls (jv_i (lg_cmp x y) :: st) h) : jx_W T Q kc ks n ls (jv_l y :: jv_l x :: st) h := by
  intro g p l e R s mI args below meth c C H locs lr pc Rp S L V St N0 hp
  obtain ⟨hx, hb, hml, hr, hown, hts, hlk, hnm, hK, hE, hg1, hR, hck, hal⟩ := id C
  obtain ⟨hd, hnx, hsd⟩ := jx_step hck hc rfl hp
  exact W.lcmp hx hb hd (k g p l e R s mI args below meth c C H locs lr _ Rp S L V ⟨trivial, St.2.2⟩ N0 (hnx rfl))
theorem jx_c1 (sd : Nat) (g : jx_E) {v : jx_V} (h : ∀ x, v ≠ jv_l x) : (jx_cv sd g v).category = 1 := (lv_cat _).resolve_right (fun z => by obtain ⟨x, rfl⟩ := (jx_cat sd g v).mp z; exact h x rfl)
theorem jr_dup_i {T : jx_P} {Q : Option jx_V → jx_H → Prop} {kc ks n : Nat} {ls : List (Option jx_V)} {st : List jx_V} {h : jx_H} {x : Int32} (hc : jx_at (jm_k (jt_Y T)) n = some (jx_o 41)) (k : jx_W T Q kc ks (n + 1) ls (jv_i x :: jv_i x :: st) h) : jx_W T Q kc ks n ls (jv_i x :: st) h := by
  intro g p l e R s mI args below meth c C H locs lr pc Rp S L V St N0 hp
  obtain ⟨hx, hb, hml, hr, hown, hts, hlk, hnm, hK, hE, hg1, hR, hck, hal⟩ := id C
  obtain ⟨hd, hnx, hsd⟩ := jx_step hck hc rfl hp
  exact lv_dup hx hb hd rfl (k g p l e R s mI args below meth c C H locs lr _ Rp S L V ⟨trivial, St⟩ N0 (hnx rfl))
theorem jr_dup_r {T : jx_P} {Q : Option jx_V → jx_H → Prop} {kc ks n : Nat} {ls : List (Option jx_V)} {st : List jx_V} {h : jx_H} {a b : Nat} (hc : jx_at (jm_k (jt_Y T)) n = some (jx_o 41)) (k : jx_W T Q kc ks (n + 1) ls (jv_r a b :: jv_r a b :: st) h) : jx_W T Q kc ks n ls (jv_r a b :: st) h := by
  intro g p l e R s mI args below meth c C H locs lr pc Rp S L V St N0 hp
  obtain ⟨hx, hb, hml, hr, hown, hts, hlk, hnm, hK, hE, hg1, hR, hck, hal⟩ := id C
  obtain ⟨hd, hnx, hsd⟩ := jx_step hck hc rfl hp
  exact lv_dup hx hb hd (jx_c1 _ g (v := jv_r a b) (fun _ z => by cases z)) (k g p l e R s mI args below meth c C H locs lr _ Rp S L V ⟨St.1, St⟩ N0 (hnx rfl))
theorem jr_dup2 {T : jx_P} {Q : Option jx_V → jx_H → Prop} {kc ks n : Nat} {ls : List (Option jx_V)} {st : List jx_V} {h : jx_H} {x : Int32} {a b : Nat} (hc : jx_at (jm_k (jt_Y T)) n = some (jx_o 42)) (k : jx_W T Q kc ks (n + 1) ls (jv_i x :: jv_r a b :: jv_i x :: jv_r a b :: st) h) : jx_W T Q kc ks n ls (jv_i x :: jv_r a b :: st) h := by
  intro g p l e R s mI args below meth c C H locs lr pc Rp S L V St N0 hp
  obtain ⟨hx, hb, hml, hr, hown, hts, hlk, hnm, hK, hE, hg1, hR, hck, hal⟩ := id C
  obtain ⟨hd, hnx, hsd⟩ := jx_step hck hc rfl hp
  exact lv_dup2_11 hx hb hd rfl (jx_c1 _ g (v := jv_r a b) (fun _ z => by cases z)) (k g p l e R s mI args below meth c C H locs lr _ Rp S L V ⟨trivial, St.2.1, St⟩ N0 (hnx rfl))
theorem jr_pop {T : jx_P} {Q : Option jx_V → jx_H → Prop} {kc ks n : Nat} {ls : List (Option jx_V)} {st : List jx_V} {h : jx_H} {x : Int32} (hc : jx_at (jm_k (jt_Y T)) n = some (jx_o 43)) (k : jx_W T Q kc ks (n + 1) ls (st) h) : jx_W T Q kc ks n ls (jv_i x :: st) h := by
  intro g p l e R s mI args below meth c C H locs lr pc Rp S L V St N0 hp
  obtain ⟨hx, hb, hml, hr, hown, hts, hlk, hnm, hK, hE, hg1, hR, hck, hal⟩ := id C
  obtain ⟨hd, hnx, hsd⟩ := jx_step hck hc rfl hp
  exact lv_pop hx hb hd rfl (k g p l e R s mI args below meth c C H locs lr _ Rp S L V St.2 N0 (hnx rfl))
theorem jr_ic {T : jx_P} {Q : Option jx_V → jx_H → Prop} {kc ks n : Nat} {ls : List (Option jx_V)} {st : List jx_V} {h : jx_H} {a b : Nat} {z : Int} {v : Int32} (hc : jx_at (jm_k (jt_Y T)) n = some (jx_oc b a z v)) (k : jx_W T Q kc ks (n + 1) ls (jv_i v :: st) h) : jx_W T Q kc ks n ls st h := by
  intro g p l e R s mI args below meth c C H locs lr pc Rp S L V St N0 hp
  obtain ⟨hx, hb, hml, hr, hown, hts, hlk, hnm, hK, hE, hg1, hR, hck, hal⟩ := id C
  obtain ⟨hd, hnx, hsd⟩ := jx_step hck hc rfl hp
  have hword := fun w hw => hts w (jx_word (w := w) hal hc hw)
  rcases Nat.lt_or_ge b 4 with hb4 | hb4
  · have h4 : b = 0 ∨ b = 1 ∨ b = 2 ∨ b = 3 := by omega
    rcases h4 with rfl | rfl | rfl | rfl
    · exact lv_iconst hx hb hd (of_decide_eq_true hsd) (k g p l e R s mI args below meth c C H locs lr _ Rp S L V ⟨trivial, St⟩ N0 (hnx rfl))
    · exact lv_bipush hx hb hd (of_decide_eq_true hsd) (k g p l e R s mI args below meth c C H locs lr _ Rp S L V ⟨trivial, St⟩ N0 (hnx rfl))
    · exact lv_sipush hx hb hd (of_decide_eq_true hsd) (k g p l e R s mI args below meth c C H locs lr _ Rp S L V ⟨trivial, St⟩ N0 (hnx rfl))
    · exact lv_ldc hx hb hown (hword _ (List.mem_cons_self)) hd (k g p l e R s mI args below meth c C H locs lr _ Rp S L V ⟨trivial, St⟩ N0 (hnx rfl))
  · obtain ⟨b', rfl⟩ : ∃ b', b = b' + 4 := ⟨b - 4, by omega⟩
    exact lv_ldcw hx hb hown (hword _ (by show _ ∈ (if b' + 4 < 3 then ([] : List Cond) else _); rw [if_neg (by omega)]; exact List.mem_cons_self)) hd (k g p l e R s mI args below meth c C H locs lr _ Rp S L V ⟨trivial, St⟩ N0 (hnx rfl))
theorem jr_lc {T : jx_P} {Q : Option jx_V → jx_H → Prop} {kc ks n : Nat} {ls : List (Option jx_V)} {st : List jx_V} {h : jx_H} {a b : Nat} {z : Int} {v : Int64} (hc : jx_at (jm_k (jt_Y T)) n = some (jx_ol b a z v)) (k : jx_W T Q kc ks (n + 1) ls (jv_l v :: st) h) : jx_W T Q kc ks n ls st h := by
  intro g p l e R s mI args below meth c C H locs lr pc Rp S L V St N0 hp
  obtain ⟨hx, hb, hml, hr, hown, hts, hlk, hnm, hK, hE, hg1, hR, hck, hal⟩ := id C
  obtain ⟨hd, hnx, hsd⟩ := jx_step hck hc rfl hp
  have hword := fun w hw => hts w (jx_word (w := w) hal hc hw)
  by_cases hb0 : b = 0
  · subst hb0
    exact lv_lconst hx hb hd (of_decide_eq_true hsd) (k g p l e R s mI args below meth c C H locs lr _ Rp S L V ⟨trivial, St⟩ N0 (hnx rfl))
  · have ee : jx_re (jx_ol b a z v) = (.ldc2_w a, 3) := by show (if b = 0 then _ else _) = _; rw [if_neg hb0]; rfl
    rw [ee] at hd hnx
    exact lv_ldc2 hx hb hown (hword _ (by show _ ∈ (if b = 0 then ([] : List Cond) else _); rw [if_neg hb0]; exact List.mem_cons_self)) hd (k g p l e R s mI args below meth c C H locs lr _ Rp S L V ⟨trivial, St⟩ N0 (hnx rfl))
theorem jr_iload {T : jx_P} {Q : Option jx_V → jx_H → Prop} {kc ks n : Nat} {ls : List (Option jx_V)} {st : List jx_V} {h : jx_H} {a b : Nat} {x : Int32} (hc : jx_at (jm_k (jt_Y T)) n = some (jx_o1 3 a b)) (hl : jx_at ls a = some (some (jv_i x))) (k : jx_W T Q kc ks (n + 1) ls (jv_i x :: st) h) : jx_W T Q kc ks n ls st h := by
  intro g p l e R s mI args below meth c C H locs lr pc Rp S L V St N0 hp
  obtain ⟨hx, hb, hml, hr, hown, hts, hlk, hnm, hK, hE, hg1, hR, hck, hal⟩ := id C
  obtain ⟨hd, hnx, hsd⟩ := jx_step hck hc rfl hp
  have hl' := jx_ld (cv := jx_cv (jt_sd T) g) L.1 hl
  by_cases hb1 : b = 1
  · subst hb1
    have ha : a < 4 := by
      have h9 : ((1 : Nat) == 0 || decide (a < 4)) = true := hsd
      simpa using h9
    have hf : ((jx_f4 a : Fin 4) : Nat) = a := Nat.mod_eq_of_lt ha
    exact lv_iload_n hx hb hd hf hl' (k g p l e R s mI args below meth c C H locs lr _ Rp S L V ⟨trivial, St⟩ N0 (hnx rfl))
  · have ee : jx_re (jx_o1 3 a b) = (.iload a, 2) := by show (if b = 1 then _ else _) = _; rw [if_neg hb1]; rfl
    rw [ee] at hd hnx
    exact lv_iload hx hb hd hl' (k g p l e R s mI args below meth c C H locs lr _ Rp S L V ⟨trivial, St⟩ N0 (hnx rfl))
theorem jr_lload {T : jx_P} {Q : Option jx_V → jx_H → Prop} {kc ks n : Nat} {ls : List (Option jx_V)} {st : List jx_V} {h : jx_H} {a b : Nat} {x : Int64} (hc : jx_at (jm_k (jt_Y T)) n = some (jx_o1 4 a b)) (hl : jx_at ls a = some (some (jv_l x))) (k : jx_W T Q kc ks (n + 1) ls (jv_l x :: st) h) : jx_W T Q kc ks n ls st h := by
  intro g p l e R s mI args below meth c C H locs lr pc Rp S L V St N0 hp
  obtain ⟨hx, hb, hml, hr, hown, hts, hlk, hnm, hK, hE, hg1, hR, hck, hal⟩ := id C
  obtain ⟨hd, hnx, hsd⟩ := jx_step hck hc rfl hp
  have hl' := jx_ld (cv := jx_cv (jt_sd T) g) L.1 hl
  by_cases hb1 : b = 1
  · subst hb1
    have ha : a < 4 := by
      have h9 : ((1 : Nat) == 0 || decide (a < 4)) = true := hsd
      simpa using h9
    have hf : ((jx_f4 a : Fin 4) : Nat) = a := Nat.mod_eq_of_lt ha
    exact lv_lload_n hx hb hd hf hl' (k g p l e R s mI args below meth c C H locs lr _ Rp S L V ⟨trivial, St⟩ N0 (hnx rfl))
  · have ee : jx_re (jx_o1 4 a b) = (.lload a, 2) := by show (if b = 1 then _ else _) = _; rw [if_neg hb1]; rfl
    rw [ee] at hd hnx
    exact lv_lload hx hb hd hl' (k g p l e R s mI args below meth c C H locs lr _ Rp S L V ⟨trivial, St⟩ N0 (hnx rfl))
theorem jx_rv_cases (sd : Nat) (g : jx_E) (k i : Nat) : jx_cv sd g (jv_r k i) = .null ∨ ∃ a, jx_cv sd g (jv_r k i) = .ref a := by
  show (if k = 12 then _ else _) = _ ∨ ∃ a, (if k = 12 then _ else _) = _
  split
  · exact Or.inr ⟨_, rfl⟩
  · split
    · exact Or.inr ⟨_, rfl⟩
    · split
      · unfold va_rf; split
        · exact Or.inl rfl
        · exact Or.inr ⟨_, rfl⟩
      · exact Or.inr ⟨_, rfl⟩
theorem jr_aload {T : jx_P} {Q : Option jx_V → jx_H → Prop} {kc ks n : Nat} {ls : List (Option jx_V)} {st : List jx_V} {h : jx_H} {a b : Nat} {x y : Nat} (hc : jx_at (jm_k (jt_Y T)) n = some (jx_o1 5 a b)) (hl : jx_at ls a = some (some (jv_r x y))) (k : jx_W T Q kc ks (n + 1) ls (jv_r x y :: st) h) : jx_W T Q kc ks n ls st h := by
  intro g p l e R s mI args below meth c C H locs lr pc Rp S L V St N0 hp
  obtain ⟨hx, hb, hml, hr, hown, hts, hlk, hnm, hK, hE, hg1, hR, hck, hal⟩ := id C
  obtain ⟨hd, hnx, hsd⟩ := jx_step hck hc rfl hp
  have hl' := jx_ld (cv := jx_cv (jt_sd T) g) L.1 hl
  by_cases hb1 : b = 1
  · subst hb1
    have ha : a < 4 := by
      have h9 : ((1 : Nat) == 0 || decide (a < 4)) = true := hsd
      simpa using h9
    have hf : ((jx_f4 a : Fin 4) : Nat) = a := Nat.mod_eq_of_lt ha
    have k' := (k g p l e R s mI args below meth c C H locs lr _ Rp S L V ⟨jx_vl_at V hl, St⟩ N0 (hnx rfl))
    rcases jx_rv_cases (jt_sd T) g x y with hv | ⟨w, hv⟩
    · rw [hv] at hl'
      refine lv_aload_nN hx hb hd hf hl' ?_
      rw [← hv]; exact k'
    · rw [hv] at hl'
      refine lv_aload_n hx hb hd hf hl' ?_
      rw [← hv]; exact k'
  · have ee : jx_re (jx_o1 5 a b) = (.aload a, 2) := by show (if b = 1 then _ else _) = _; rw [if_neg hb1]; rfl
    rw [ee] at hd hnx
    have k' := (k g p l e R s mI args below meth c C H locs lr _ Rp S L V ⟨jx_vl_at V hl, St⟩ N0 (hnx rfl))
    rcases jx_rv_cases (jt_sd T) g x y with hv | ⟨w, hv⟩
    · rw [hv] at hl'
      refine lv_aloadN hx hb hd hl' ?_
      rw [← hv]; exact k'
    · rw [hv] at hl'
      refine lv_aload hx hb hd hl' ?_
      rw [← hv]; exact k'
theorem jr_istoreG {T : jx_P} {Q : Option jx_V → jx_H → Prop} {kc ks n : Nat} {ls : List (Option jx_V)} {st : List jx_V} {h : jx_H} {a b : Nat} {x : Int32} (hc : jx_at (jm_k (jt_Y T)) n = some (jx_o1 6 a b)) (ha : a < ls.length) (hn : jx_np ls a = true) (k : jx_W T Q kc ks (n + 1) (jx_s1 ls a (some (jv_i x))) st h) : jx_W T Q kc ks n ls (jv_i x :: st) h := by
  intro g p l e R s mI args below meth c C H locs lr pc Rp S L V St N0 hp
  obtain ⟨hx, hb, hml, hr, hown, hts, hlk, hnm, hK, hE, hg1, hR, hck, hal⟩ := id C
  obtain ⟨hd, hnx, hsd⟩ := jx_step hck hc rfl hp
  by_cases hb1 : b = 1
  · subst hb1
    have ha4 : a < 4 := by
      have h9 : ((1 : Nat) == 0 || decide (a < 4)) = true := hsd
      simpa using h9
    have hf : ((jx_f4 a : Fin 4) : Nat) = a := Nat.mod_eq_of_lt ha4
    exact lv_istore_n hx hb hd hf L.1 (by rw [← L.2]; exact ha) rfl (fun lr2 hl2 => (k g p l e R s mI args below meth c C H locs lr2 _ Rp S ⟨(jx_store1 hn hl2), by rw [jx_s1_len]; exact L.2⟩ (jx_vl_s1 V trivial) St.2 N0 (hnx rfl)))
  · have ee : jx_re (jx_o1 6 a b) = (.istore a, 2) := by show (if b = 1 then _ else _) = _; rw [if_neg hb1]; rfl
    rw [ee] at hd hnx
    exact lv_istore hx hb hd L.1 (by rw [← L.2]; exact ha) rfl (fun lr2 hl2 => (k g p l e R s mI args below meth c C H locs lr2 _ Rp S ⟨(jx_store1 hn hl2), by rw [jx_s1_len]; exact L.2⟩ (jx_vl_s1 V trivial) St.2 N0 (hnx rfl)))
theorem jr_lstoreG {T : jx_P} {Q : Option jx_V → jx_H → Prop} {kc ks n : Nat} {ls : List (Option jx_V)} {st : List jx_V} {h : jx_H} {a b : Nat} {x : Int64} (hc : jx_at (jm_k (jt_Y T)) n = some (jx_o1 7 a b)) (ha : a + 1 < ls.length) (hn : jx_np ls a = true) (k : jx_W T Q kc ks (n + 1) (jx_s1 (jx_s1 ls (a + 1) none) a (some (jv_l x))) st h) : jx_W T Q kc ks n ls (jv_l x :: st) h := by
  intro g p l e R s mI args below meth c C H locs lr pc Rp S L V St N0 hp
  obtain ⟨hx, hb, hml, hr, hown, hts, hlk, hnm, hK, hE, hg1, hR, hck, hal⟩ := id C
  obtain ⟨hd, hnx, hsd⟩ := jx_step hck hc rfl hp
  by_cases hb1 : b = 1
  · subst hb1
    have ha4 : a < 4 := by
      have h9 : ((1 : Nat) == 0 || decide (a < 4)) = true := hsd
      simpa using h9
    have hf : ((jx_f4 a : Fin 4) : Nat) = a := Nat.mod_eq_of_lt ha4
    exact lv_lstore_n hx hb hd hf L.1 (by rw [← L.2]; exact ha) rfl (fun lr2 hl2 => (k g p l e R s mI args below meth c C H locs lr2 _ Rp S ⟨(jx_store2 hn hl2), by rw [jx_s1_len, jx_s1_len]; exact L.2⟩ (jx_vl_s1 (jx_vl_s1n V) trivial) St.2 N0 (hnx rfl)))
  · have ee : jx_re (jx_o1 7 a b) = (.lstore a, 2) := by show (if b = 1 then _ else _) = _; rw [if_neg hb1]; rfl
    rw [ee] at hd hnx
    exact lv_lstore hx hb hd L.1 (by rw [← L.2]; exact ha) rfl (fun lr2 hl2 => (k g p l e R s mI args below meth c C H locs lr2 _ Rp S ⟨(jx_store2 hn hl2), by rw [jx_s1_len, jx_s1_len]; exact L.2⟩ (jx_vl_s1 (jx_vl_s1n V) trivial) St.2 N0 (hnx rfl)))
theorem jr_astoreG {T : jx_P} {Q : Option jx_V → jx_H → Prop} {kc ks n : Nat} {ls : List (Option jx_V)} {st : List jx_V} {h : jx_H} {a b : Nat} {x y : Nat} (hc : jx_at (jm_k (jt_Y T)) n = some (jx_o1 8 a b)) (ha : a < ls.length) (hn : jx_np ls a = true) (k : jx_W T Q kc ks (n + 1) (jx_s1 ls a (some (jv_r x y))) st h) : jx_W T Q kc ks n ls (jv_r x y :: st) h := by
  intro g p l e R s mI args below meth c C H locs lr pc Rp S L V St N0 hp
  obtain ⟨hx, hb, hml, hr, hown, hts, hlk, hnm, hK, hE, hg1, hR, hck, hal⟩ := id C
  obtain ⟨hd, hnx, hsd⟩ := jx_step hck hc rfl hp
  by_cases hb1 : b = 1
  · subst hb1
    have ha4 : a < 4 := by
      have h9 : ((1 : Nat) == 0 || decide (a < 4)) = true := hsd
      simpa using h9
    have hf : ((jx_f4 a : Fin 4) : Nat) = a := Nat.mod_eq_of_lt ha4
    rcases jx_rv_cases (jt_sd T) g x y with hv | ⟨w, hv⟩
    · rw [show (jv_r x y :: st).map (jx_cv (jt_sd T) g) = .null :: st.map (jx_cv (jt_sd T) g) from by rw [List.map_cons, hv]]
      exact lv_astore_nN hx hb hd hf L.1 (by rw [← L.2]; exact ha) rfl (fun lr2 hl2 => by rw [← hv] at hl2; exact (k g p l e R s mI args below meth c C H locs lr2 _ Rp S ⟨(jx_store1 hn hl2), by rw [jx_s1_len]; exact L.2⟩ (jx_vl_s1 V St.1) St.2 N0 (hnx rfl)))
    · rw [show (jv_r x y :: st).map (jx_cv (jt_sd T) g) = .ref w :: st.map (jx_cv (jt_sd T) g) from by rw [List.map_cons, hv]]
      exact lv_astore_n hx hb hd hf L.1 (by rw [← L.2]; exact ha) rfl (fun lr2 hl2 => by rw [← hv] at hl2; exact (k g p l e R s mI args below meth c C H locs lr2 _ Rp S ⟨(jx_store1 hn hl2), by rw [jx_s1_len]; exact L.2⟩ (jx_vl_s1 V St.1) St.2 N0 (hnx rfl)))
  · have ee : jx_re (jx_o1 8 a b) = (.astore a, 2) := by show (if b = 1 then _ else _) = _; rw [if_neg hb1]; rfl
    rw [ee] at hd hnx
    rcases jx_rv_cases (jt_sd T) g x y with hv | ⟨w, hv⟩
    · rw [show (jv_r x y :: st).map (jx_cv (jt_sd T) g) = .null :: st.map (jx_cv (jt_sd T) g) from by rw [List.map_cons, hv]]
      exact lv_astoreN hx hb hd L.1 (by rw [← L.2]; exact ha) rfl (fun lr2 hl2 => by rw [← hv] at hl2; exact (k g p l e R s mI args below meth c C H locs lr2 _ Rp S ⟨(jx_store1 hn hl2), by rw [jx_s1_len]; exact L.2⟩ (jx_vl_s1 V St.1) St.2 N0 (hnx rfl)))
    · rw [show (jv_r x y :: st).map (jx_cv (jt_sd T) g) = .ref w :: st.map (jx_cv (jt_sd T) g) from by rw [List.map_cons, hv]]
      exact lv_astore hx hb hd L.1 (by rw [← L.2]; exact ha) rfl (fun lr2 hl2 => by rw [← hv] at hl2; exact (k g p l e R s mI args below meth c C H locs lr2 _ Rp S ⟨(jx_store1 hn hl2), by rw [jx_s1_len]; exact L.2⟩ (jx_vl_s1 V St.1) St.2 N0 (hnx rfl)))
theorem jr_ist0 {T : jx_P} {Q : Option jx_V → jx_H → Prop} {kc ks n : Nat} {l0 : Option jx_V} {lt : List (Option jx_V)} {st : List jx_V} {h : jx_H} {b : Nat} {x : Int32} (hc : jx_at (jm_k (jt_Y T)) n = some (jx_o1 6 0 b)) (hn : jx_np (l0 :: lt) 0 = true) (k : jx_W T Q kc ks (n + 1) (some (jv_i x) :: lt) st h) : jx_W T Q kc ks n (l0 :: lt) (jv_i x :: st) h := jr_istoreG hc (by simp only [List.length_cons]; omega) hn k
theorem jr_ast0 {T : jx_P} {Q : Option jx_V → jx_H → Prop} {kc ks n : Nat} {l0 : Option jx_V} {lt : List (Option jx_V)} {st : List jx_V} {h : jx_H} {b : Nat} {x y : Nat} (hc : jx_at (jm_k (jt_Y T)) n = some (jx_o1 8 0 b)) (hn : jx_np (l0 :: lt) 0 = true) (k : jx_W T Q kc ks (n + 1) (some (jv_r x y) :: lt) st h) : jx_W T Q kc ks n (l0 :: lt) (jv_r x y :: st) h := jr_astoreG hc (by simp only [List.length_cons]; omega) hn k
theorem jr_lst0 {T : jx_P} {Q : Option jx_V → jx_H → Prop} {kc ks n : Nat} {l0 l1 : Option jx_V} {lt : List (Option jx_V)} {st : List jx_V} {h : jx_H} {b : Nat} {x : Int64} (hc : jx_at (jm_k (jt_Y T)) n = some (jx_o1 7 0 b)) (hn : jx_np (l0 :: l1 :: lt) 0 = true) (k : jx_W T Q kc ks (n + 1) (some (jv_l x) :: none :: lt) st h) : jx_W T Q kc ks n (l0 :: l1 :: lt) (jv_l x :: st) h := jr_lstoreG hc (by simp only [List.length_cons]; omega) hn k
theorem jr_ist1 {T : jx_P} {Q : Option jx_V → jx_H → Prop} {kc ks n : Nat} {l0 l1 : Option jx_V} {lt : List (Option jx_V)} {st : List jx_V} {h : jx_H} {b : Nat} {x : Int32} (hc : jx_at (jm_k (jt_Y T)) n = some (jx_o1 6 1 b)) (hn : jx_np (l0 :: l1 :: lt) 1 = true) (k : jx_W T Q kc ks (n + 1) (l0 :: some (jv_i x) :: lt) st h) : jx_W T Q kc ks n (l0 :: l1 :: lt) (jv_i x :: st) h := jr_istoreG hc (by simp only [List.length_cons]; omega) hn k
theorem jr_ast1 {T : jx_P} {Q : Option jx_V → jx_H → Prop} {kc ks n : Nat} {l0 l1 : Option jx_V} {lt : List (Option jx_V)} {st : List jx_V} {h : jx_H} {b : Nat} {x y : Nat} (hc : jx_at (jm_k (jt_Y T)) n = some (jx_o1 8 1 b)) (hn : jx_np (l0 :: l1 :: lt) 1 = true) (k : jx_W T Q kc ks (n + 1) (l0 :: some (jv_r x y) :: lt) st h) : jx_W T Q kc ks n (l0 :: l1 :: lt) (jv_r x y :: st) h := jr_astoreG hc (by simp only [List.length_cons]; omega) hn k
theorem jr_lst1 {T : jx_P} {Q : Option jx_V → jx_H → Prop} {kc ks n : Nat} {l0 l1 l2 : Option jx_V} {lt : List (Option jx_V)} {st : List jx_V} {h : jx_H} {b : Nat} {x : Int64} (hc : jx_at (jm_k (jt_Y T)) n = some (jx_o1 7 1 b)) (hn : jx_np (l0 :: l1 :: l2 :: lt) 1 = true) (k : jx_W T Q kc ks (n + 1) (l0 :: some (jv_l x) :: none :: lt) st h) : jx_W T Q kc ks n (l0 :: l1 :: l2 :: lt) (jv_l x :: st) h := jr_lstoreG hc (by simp only [List.length_cons]; omega) hn k
theorem jr_ist2 {T : jx_P} {Q : Option jx_V → jx_H → Prop} {kc ks n : Nat} {l0 l1 l2 : Option jx_V} {lt : List (Option jx_V)} {st : List jx_V} {h : jx_H} {b : Nat} {x : Int32} (hc : jx_at (jm_k (jt_Y T)) n = some (jx_o1 6 2 b)) (hn : jx_np (l0 :: l1 :: l2 :: lt) 2 = true) (k : jx_W T Q kc ks (n + 1) (l0 :: l1 :: some (jv_i x) :: lt) st h) : jx_W T Q kc ks n (l0 :: l1 :: l2 :: lt) (jv_i x :: st) h := jr_istoreG hc (by simp only [List.length_cons]; omega) hn k
theorem jr_ast2 {T : jx_P} {Q : Option jx_V → jx_H → Prop} {kc ks n : Nat} {l0 l1 l2 : Option jx_V} {lt : List (Option jx_V)} {st : List jx_V} {h : jx_H} {b : Nat} {x y : Nat} (hc : jx_at (jm_k (jt_Y T)) n = some (jx_o1 8 2 b)) (hn : jx_np (l0 :: l1 :: l2 :: lt) 2 = true) (k : jx_W T Q kc ks (n + 1) (l0 :: l1 :: some (jv_r x y) :: lt) st h) : jx_W T Q kc ks n (l0 :: l1 :: l2 :: lt) (jv_r x y :: st) h := jr_astoreG hc (by simp only [List.length_cons]; omega) hn k
theorem jr_lst2 {T : jx_P} {Q : Option jx_V → jx_H → Prop} {kc ks n : Nat} {l0 l1 l2 l3 : Option jx_V} {lt : List (Option jx_V)} {st : List jx_V} {h : jx_H} {b : Nat} {x : Int64} (hc : jx_at (jm_k (jt_Y T)) n = some (jx_o1 7 2 b)) (hn : jx_np (l0 :: l1 :: l2 :: l3 :: lt) 2 = true) (k : jx_W T Q kc ks (n + 1) (l0 :: l1 :: some (jv_l x) :: none :: lt) st h) : jx_W T Q kc ks n (l0 :: l1 :: l2 :: l3 :: lt) (jv_l x :: st) h := jr_lstoreG hc (by simp only [List.length_cons]; omega) hn k
theorem jr_ist3 {T : jx_P} {Q : Option jx_V → jx_H → Prop} {kc ks n : Nat} {l0 l1 l2 l3 : Option jx_V} {lt : List (Option jx_V)} {st : List jx_V} {h : jx_H} {b : Nat} {x : Int32} (hc : jx_at (jm_k (jt_Y T)) n = some (jx_o1 6 3 b)) (hn : jx_np (l0 :: l1 :: l2 :: l3 :: lt) 3 = true) (k : jx_W T Q kc ks (n + 1) (l0 :: l1 :: l2 :: some (jv_i x) :: lt) st h) : jx_W T Q kc ks n (l0 :: l1 :: l2 :: l3 :: lt) (jv_i x :: st) h := jr_istoreG hc (by simp only [List.length_cons]; omega) hn k
theorem jr_ast3 {T : jx_P} {Q : Option jx_V → jx_H → Prop} {kc ks n : Nat} {l0 l1 l2 l3 : Option jx_V} {lt : List (Option jx_V)} {st : List jx_V} {h : jx_H} {b : Nat} {x y : Nat} (hc : jx_at (jm_k (jt_Y T)) n = some (jx_o1 8 3 b)) (hn : jx_np (l0 :: l1 :: l2 :: l3 :: lt) 3 = true) (k : jx_W T Q kc ks (n + 1) (l0 :: l1 :: l2 :: some (jv_r x y) :: lt) st h) : jx_W T Q kc ks n (l0 :: l1 :: l2 :: l3 :: lt) (jv_r x y :: st) h := jr_astoreG hc (by simp only [List.length_cons]; omega) hn k
theorem jr_lst3 {T : jx_P} {Q : Option jx_V → jx_H → Prop} {kc ks n : Nat} {l0 l1 l2 l3 l4 : Option jx_V} {lt : List (Option jx_V)} {st : List jx_V} {h : jx_H} {b : Nat} {x : Int64} (hc : jx_at (jm_k (jt_Y T)) n = some (jx_o1 7 3 b)) (hn : jx_np (l0 :: l1 :: l2 :: l3 :: l4 :: lt) 3 = true) (k : jx_W T Q kc ks (n + 1) (l0 :: l1 :: l2 :: some (jv_l x) :: none :: lt) st h) : jx_W T Q kc ks n (l0 :: l1 :: l2 :: l3 :: l4 :: lt) (jv_l x :: st) h := jr_lstoreG hc (by simp only [List.length_cons]; omega) hn k
theorem jr_ist4 {T : jx_P} {Q : Option jx_V → jx_H → Prop} {kc ks n : Nat} {l0 l1 l2 l3 l4 : Option jx_V} {lt : List (Option jx_V)} {st : List jx_V} {h : jx_H} {b : Nat} {x : Int32} (hc : jx_at (jm_k (jt_Y T)) n = some (jx_o1 6 4 b)) (hn : jx_np (l0 :: l1 :: l2 :: l3 :: l4 :: lt) 4 = true) (k : jx_W T Q kc ks (n + 1) (l0 :: l1 :: l2 :: l3 :: some (jv_i x) :: lt) st h) : jx_W T Q kc ks n (l0 :: l1 :: l2 :: l3 :: l4 :: lt) (jv_i x :: st) h := jr_istoreG hc (by simp only [List.length_cons]; omega) hn k
theorem jr_ast4 {T : jx_P} {Q : Option jx_V → jx_H → Prop} {kc ks n : Nat} {l0 l1 l2 l3 l4 : Option jx_V} {lt : List (Option jx_V)} {st : List jx_V} {h : jx_H} {b : Nat} {x y : Nat} (hc : jx_at (jm_k (jt_Y T)) n = some (jx_o1 8 4 b)) (hn : jx_np (l0 :: l1 :: l2 :: l3 :: l4 :: lt) 4 = true) (k : jx_W T Q kc ks (n + 1) (l0 :: l1 :: l2 :: l3 :: some (jv_r x y) :: lt) st h) : jx_W T Q kc ks n (l0 :: l1 :: l2 :: l3 :: l4 :: lt) (jv_r x y :: st) h := jr_astoreG hc (by simp only [List.length_cons]; omega) hn k
theorem jr_lst4 {T : jx_P} {Q : Option jx_V → jx_H → Prop} {kc ks n : Nat} {l0 l1 l2 l3 l4 l5 : Option jx_V} {lt : List (Option jx_V)} {st : List jx_V} {h : jx_H} {b : Nat} {x : Int64} (hc : jx_at (jm_k (jt_Y T)) n = some (jx_o1 7 4 b)) (hn : jx_np (l0 :: l1 :: l2 :: l3 :: l4 :: l5 :: lt) 4 = true) (k : jx_W T Q kc ks (n + 1) (l0 :: l1 :: l2 :: l3 :: some (jv_l x) :: none :: lt) st h) : jx_W T Q kc ks n (l0 :: l1 :: l2 :: l3 :: l4 :: l5 :: lt) (jv_l x :: st) h := jr_lstoreG hc (by simp only [List.length_cons]; omega) hn k
theorem jr_ist5 {T : jx_P} {Q : Option jx_V → jx_H → Prop} {kc ks n : Nat} {l0 l1 l2 l3 l4 l5 : Option jx_V} {lt : List (Option jx_V)} {st : List jx_V} {h : jx_H} {b : Nat} {x : Int32} (hc : jx_at (jm_k (jt_Y T)) n = some (jx_o1 6 5 b)) (hn : jx_np (l0 :: l1 :: l2 :: l3 :: l4 :: l5 :: lt) 5 = true) (k : jx_W T Q kc ks (n + 1) (l0 :: l1 :: l2 :: l3 :: l4 :: some (jv_i x) :: lt) st h) : jx_W T Q kc ks n (l0 :: l1 :: l2 :: l3 :: l4 :: l5 :: lt) (jv_i x :: st) h := jr_istoreG hc (by simp only [List.length_cons]; omega) hn k
theorem jr_ast5 {T : jx_P} {Q : Option jx_V → jx_H → Prop} {kc ks n : Nat} {l0 l1 l2 l3 l4 l5 : Option jx_V} {lt : List (Option jx_V)} {st : List jx_V} {h : jx_H} {b : Nat} {x y : Nat} (hc : jx_at (jm_k (jt_Y T)) n = some (jx_o1 8 5 b)) (hn : jx_np (l0 :: l1 :: l2 :: l3 :: l4 :: l5 :: lt) 5 = true) (k : jx_W T Q kc ks (n + 1) (l0 :: l1 :: l2 :: l3 :: l4 :: some (jv_r x y) :: lt) st h) : jx_W T Q kc ks n (l0 :: l1 :: l2 :: l3 :: l4 :: l5 :: lt) (jv_r x y :: st) h := jr_astoreG hc (by simp only [List.length_cons]; omega) hn k
theorem jr_lst5 {T : jx_P} {Q : Option jx_V → jx_H → Prop} {kc ks n : Nat} {l0 l1 l2 l3 l4 l5 l6 : Option jx_V} {lt : List (Option jx_V)} {st : List jx_V} {h : jx_H} {b : Nat} {x : Int64} (hc : jx_at (jm_k (jt_Y T)) n = some (jx_o1 7 5 b)) (hn : jx_np (l0 :: l1 :: l2 :: l3 :: l4 :: l5 :: l6 :: lt) 5 = true) (k : jx_W T Q kc ks (n + 1) (l0 :: l1 :: l2 :: l3 :: l4 :: some (jv_l x) :: none :: lt) st h) : jx_W T Q kc ks n (l0 :: l1 :: l2 :: l3 :: l4 :: l5 :: l6 :: lt) (jv_l x :: st) h := jr_lstoreG hc (by simp only [List.length_cons]; omega) hn k
theorem jr_ist6 {T : jx_P} {Q : Option jx_V → jx_H → Prop} {kc ks n : Nat} {l0 l1 l2 l3 l4 l5 l6 : Option jx_V} {lt : List (Option jx_V)} {st : List jx_V} {h : jx_H} {b : Nat} {x : Int32} (hc : jx_at (jm_k (jt_Y T)) n = some (jx_o1 6 6 b)) (hn : jx_np (l0 :: l1 :: l2 :: l3 :: l4 :: l5 :: l6 :: lt) 6 = true) (k : jx_W T Q kc ks (n + 1) (l0 :: l1 :: l2 :: l3 :: l4 :: l5 :: some (jv_i x) :: lt) st h) : jx_W T Q kc ks n (l0 :: l1 :: l2 :: l3 :: l4 :: l5 :: l6 :: lt) (jv_i x :: st) h := jr_istoreG hc (by simp only [List.length_cons]; omega) hn k
theorem jr_ast6 {T : jx_P} {Q : Option jx_V → jx_H → Prop} {kc ks n : Nat} {l0 l1 l2 l3 l4 l5 l6 : Option jx_V} {lt : List (Option jx_V)} {st : List jx_V} {h : jx_H} {b : Nat} {x y : Nat} (hc : jx_at (jm_k (jt_Y T)) n = some (jx_o1 8 6 b)) (hn : jx_np (l0 :: l1 :: l2 :: l3 :: l4 :: l5 :: l6 :: lt) 6 = true) (k : jx_W T Q kc ks (n + 1) (l0 :: l1 :: l2 :: l3 :: l4 :: l5 :: some (jv_r x y) :: lt) st h) : jx_W T Q kc ks n (l0 :: l1 :: l2 :: l3 :: l4 :: l5 :: l6 :: lt) (jv_r x y :: st) h := jr_astoreG hc (by simp only [List.length_cons]; omega) hn k
theorem jr_lst6 {T : jx_P} {Q : Option jx_V → jx_H → Prop} {kc ks n : Nat} {l0 l1 l2 l3 l4 l5 l6 l7 : Option jx_V} {lt : List (Option jx_V)} {st : List jx_V} {h : jx_H} {b : Nat} {x : Int64} (hc : jx_at (jm_k (jt_Y T)) n = some (jx_o1 7 6 b)) (hn : jx_np (l0 :: l1 :: l2 :: l3 :: l4 :: l5 :: l6 :: l7 :: lt) 6 = true) (k : jx_W T Q kc ks (n + 1) (l0 :: l1 :: l2 :: l3 :: l4 :: l5 :: some (jv_l x) :: none :: lt) st h) : jx_W T Q kc ks n (l0 :: l1 :: l2 :: l3 :: l4 :: l5 :: l6 :: l7 :: lt) (jv_l x :: st) h := jr_lstoreG hc (by simp only [List.length_cons]; omega) hn k
theorem jr_ist7 {T : jx_P} {Q : Option jx_V → jx_H → Prop} {kc ks n : Nat} {l0 l1 l2 l3 l4 l5 l6 l7 : Option jx_V} {lt : List (Option jx_V)} {st : List jx_V} {h : jx_H} {b : Nat} {x : Int32} (hc : jx_at (jm_k (jt_Y T)) n = some (jx_o1 6 7 b)) (hn : jx_np (l0 :: l1 :: l2 :: l3 :: l4 :: l5 :: l6 :: l7 :: lt) 7 = true) (k : jx_W T Q kc ks (n + 1) (l0 :: l1 :: l2 :: l3 :: l4 :: l5 :: l6 :: some (jv_i x) :: lt) st h) : jx_W T Q kc ks n (l0 :: l1 :: l2 :: l3 :: l4 :: l5 :: l6 :: l7 :: lt) (jv_i x :: st) h := jr_istoreG hc (by simp only [List.length_cons]; omega) hn k
theorem jr_ast7 {T : jx_P} {Q : Option jx_V → jx_H → Prop} {kc ks n : Nat} {l0 l1 l2 l3 l4 l5 l6 l7 : Option jx_V} {lt : List (Option jx_V)} {st : List jx_V} {h : jx_H} {b : Nat} {x y : Nat} (hc : jx_at (jm_k (jt_Y T)) n = some (jx_o1 8 7 b)) (hn : jx_np (l0 :: l1 :: l2 :: l3 :: l4 :: l5 :: l6 :: l7 :: lt) 7 = true) (k : jx_W T Q kc ks (n + 1) (l0 :: l1 :: l2 :: l3 :: l4 :: l5 :: l6 :: some (jv_r x y) :: lt) st h) : jx_W T Q kc ks n (l0 :: l1 :: l2 :: l3 :: l4 :: l5 :: l6 :: l7 :: lt) (jv_r x y :: st) h := jr_astoreG hc (by simp only [List.length_cons]; omega) hn k
theorem jr_lst7 {T : jx_P} {Q : Option jx_V → jx_H → Prop} {kc ks n : Nat} {l0 l1 l2 l3 l4 l5 l6 l7 l8 : Option jx_V} {lt : List (Option jx_V)} {st : List jx_V} {h : jx_H} {b : Nat} {x : Int64} (hc : jx_at (jm_k (jt_Y T)) n = some (jx_o1 7 7 b)) (hn : jx_np (l0 :: l1 :: l2 :: l3 :: l4 :: l5 :: l6 :: l7 :: l8 :: lt) 7 = true) (k : jx_W T Q kc ks (n + 1) (l0 :: l1 :: l2 :: l3 :: l4 :: l5 :: l6 :: some (jv_l x) :: none :: lt) st h) : jx_W T Q kc ks n (l0 :: l1 :: l2 :: l3 :: l4 :: l5 :: l6 :: l7 :: l8 :: lt) (jv_l x :: st) h := jr_lstoreG hc (by simp only [List.length_cons]; omega) hn k
theorem jr_ist8 {T : jx_P} {Q : Option jx_V → jx_H → Prop} {kc ks n : Nat} {l0 l1 l2 l3 l4 l5 l6 l7 l8 : Option jx_V} {lt : List (Option jx_V)} {st : List jx_V} {h : jx_H} {b : Nat} {x : Int32} (hc : jx_at (jm_k (jt_Y T)) n = some (jx_o1 6 8 b)) (hn : jx_np (l0 :: l1 :: l2 :: l3 :: l4 :: l5 :: l6 :: l7 :: l8 :: lt) 8 = true) (k : jx_W T Q kc ks (n + 1) (l0 :: l1 :: l2 :: l3 :: l4 :: l5 :: l6 :: l7 :: some (jv_i x) :: lt) st h) : jx_W T Q kc ks n (l0 :: l1 :: l2 :: l3 :: l4 :: l5 :: l6 :: l7 :: l8 :: lt) (jv_i x :: st) h := jr_istoreG hc (by simp only [List.length_cons]; omega) hn k
theorem jr_ast8 {T : jx_P} {Q : Option jx_V → jx_H → Prop} {kc ks n : Nat} {l0 l1 l2 l3 l4 l5 l6 l7 l8 : Option jx_V} {lt : List (Option jx_V)} {st : List jx_V} {h : jx_H} {b : Nat} {x y : Nat} (hc : jx_at (jm_k (jt_Y T)) n = some (jx_o1 8 8 b)) (hn : jx_np (l0 :: l1 :: l2 :: l3 :: l4 :: l5 :: l6 :: l7 :: l8 :: lt) 8 = true) (k : jx_W T Q kc ks (n + 1) (l0 :: l1 :: l2 :: l3 :: l4 :: l5 :: l6 :: l7 :: some (jv_r x y) :: lt) st h) : jx_W T Q kc ks n (l0 :: l1 :: l2 :: l3 :: l4 :: l5 :: l6 :: l7 :: l8 :: lt) (jv_r x y :: st) h := jr_astoreG hc (by simp only [List.length_cons]; omega) hn k
theorem jr_lst8 {T : jx_P} {Q : Option jx_V → jx_H → Prop} {kc ks n : Nat} {l0 l1 l2 l3 l4 l5 l6 l7 l8 l9 : Option jx_V} {lt : List (Option jx_V)} {st : List jx_V} {h : jx_H} {b : Nat} {x : Int64} (hc : jx_at (jm_k (jt_Y T)) n = some (jx_o1 7 8 b)) (hn : jx_np (l0 :: l1 :: l2 :: l3 :: l4 :: l5 :: l6 :: l7 :: l8 :: l9 :: lt) 8 = true) (k : jx_W T Q kc ks (n + 1) (l0 :: l1 :: l2 :: l3 :: l4 :: l5 :: l6 :: l7 :: some (jv_l x) :: none :: lt) st h) : jx_W T Q kc ks n (l0 :: l1 :: l2 :: l3 :: l4 :: l5 :: l6 :: l7 :: l8 :: l9 :: lt) (jv_l x :: st) h := jr_lstoreG hc (by simp only [List.length_cons]; omega) hn k
theorem jr_ist9 {T : jx_P} {Q : Option jx_V → jx_H → Prop} {kc ks n : Nat} {l0 l1 l2 l3 l4 l5 l6 l7 l8 l9 : Option jx_V} {lt : List (Option jx_V)} {st : List jx_V} {h : jx_H} {b : Nat} {x : Int32} (hc : jx_at (jm_k (jt_Y T)) n = some (jx_o1 6 9 b)) (hn : jx_np (l0 :: l1 :: l2 :: l3 :: l4 :: l5 :: l6 :: l7 :: l8 :: l9 :: lt) 9 = true) (k : jx_W T Q kc ks (n + 1) (l0 :: l1 :: l2 :: l3 :: l4 :: l5 :: l6 :: l7 :: l8 :: some (jv_i x) :: lt) st h) : jx_W T Q kc ks n (l0 :: l1 :: l2 :: l3 :: l4 :: l5 :: l6 :: l7 :: l8 :: l9 :: lt) (jv_i x :: st) h := jr_istoreG hc (by simp only [List.length_cons]; omega) hn k
theorem jr_ast9 {T : jx_P} {Q : Option jx_V → jx_H → Prop} {kc ks n : Nat} {l0 l1 l2 l3 l4 l5 l6 l7 l8 l9 : Option jx_V} {lt : List (Option jx_V)} {st : List jx_V} {h : jx_H} {b : Nat} {x y : Nat} (hc : jx_at (jm_k (jt_Y T)) n = some (jx_o1 8 9 b)) (hn : jx_np (l0 :: l1 :: l2 :: l3 :: l4 :: l5 :: l6 :: l7 :: l8 :: l9 :: lt) 9 = true) (k : jx_W T Q kc ks (n + 1) (l0 :: l1 :: l2 :: l3 :: l4 :: l5 :: l6 :: l7 :: l8 :: some (jv_r x y) :: lt) st h) : jx_W T Q kc ks n (l0 :: l1 :: l2 :: l3 :: l4 :: l5 :: l6 :: l7 :: l8 :: l9 :: lt) (jv_r x y :: st) h := jr_astoreG hc (by simp only [List.length_cons]; omega) hn k
theorem jr_lst9 {T : jx_P} {Q : Option jx_V → jx_H → Prop} {kc ks n : Nat} {l0 l1 l2 l3 l4 l5 l6 l7 l8 l9 l10 : Option jx_V} {lt : List (Option jx_V)} {st : List jx_V} {h : jx_H} {b : Nat} {x : Int64} (hc : jx_at (jm_k (jt_Y T)) n = some (jx_o1 7 9 b)) (hn : jx_np (l0 :: l1 :: l2 :: l3 :: l4 :: l5 :: l6 :: l7 :: l8 :: l9 :: l10 :: lt) 9 = true) (k : jx_W T Q kc ks (n + 1) (l0 :: l1 :: l2 :: l3 :: l4 :: l5 :: l6 :: l7 :: l8 :: some (jv_l x) :: none :: lt) st h) : jx_W T Q kc ks n (l0 :: l1 :: l2 :: l3 :: l4 :: l5 :: l6 :: l7 :: l8 :: l9 :: l10 :: lt) (jv_l x :: st) h := jr_lstoreG hc (by simp only [List.length_cons]; omega) hn k
theorem jr_ist10 {T : jx_P} {Q : Option jx_V → jx_H → Prop} {kc ks n : Nat} {l0 l1 l2 l3 l4 l5 l6 l7 l8 l9 l10 : Option jx_V} {lt : List (Option jx_V)} {st : List jx_V} {h : jx_H} {b : Nat} {x : Int32} (hc : jx_at (jm_k (jt_Y T)) n = some (jx_o1 6 10 b)) (hn : jx_np (l0 :: l1 :: l2 :: l3 :: l4 :: l5 :: l6 :: l7 :: l8 :: l9 :: l10 :: lt) 10 = true) (k : jx_W T Q kc ks (n + 1) (l0 :: l1 :: l2 :: l3 :: l4 :: l5 :: l6 :: l7 :: l8 :: l9 :: some (jv_i x) :: lt) st h) : jx_W T Q kc ks n (l0 :: l1 :: l2 :: l3 :: l4 :: l5 :: l6 :: l7 :: l8 :: l9 :: l10 :: lt) (jv_i x :: st) h := jr_istoreG hc (by simp only [List.length_cons]; omega) hn k
theorem jr_ast10 {T : jx_P} {Q : Option jx_V → jx_H → Prop} {kc ks n : Nat} {l0 l1 l2 l3 l4 l5 l6 l7 l8 l9 l10 : Option jx_V} {lt : List (Option jx_V)} {st : List jx_V} {h : jx_H} {b : Nat} {x y : Nat} (hc : jx_at (jm_k (jt_Y T)) n = some (jx_o1 8 10 b)) (hn : jx_np (l0 :: l1 :: l2 :: l3 :: l4 :: l5 :: l6 :: l7 :: l8 :: l9 :: l10 :: lt) 10 = true) (k : jx_W T Q kc ks (n + 1) (l0 :: l1 :: l2 :: l3 :: l4 :: l5 :: l6 :: l7 :: l8 :: l9 :: some (jv_r x y) :: lt) st h) : jx_W T Q kc ks n (l0 :: l1 :: l2 :: l3 :: l4 :: l5 :: l6 :: l7 :: l8 :: l9 :: l10 :: lt) (jv_r x y :: st) h := jr_astoreG hc (by simp only [List.length_cons]; omega) hn k
theorem jr_lst10 {T : jx_P} {Q : Option jx_V → jx_H → Prop} {kc ks n : Nat} {l0 l1 l2 l3 l4 l5 l6 l7 l8 l9 l10 l11 : Option jx_V} {lt : List (Option jx_V)} {st : List jx_V} {h : jx_H} {b : Nat} {x : Int64} (hc : jx_at (jm_k (jt_Y T)) n = some (jx_o1 7 10 b)) (hn : jx_np (l0 :: l1 :: l2 :: l3 :: l4 :: l5 :: l6 :: l7 :: l8 :: l9 :: l10 :: l11 :: lt) 10 = true) (k : jx_W T Q kc ks (n + 1) (l0 :: l1 :: l2 :: l3 :: l4 :: l5 :: l6 :: l7 :: l8 :: l9 :: some (jv_l x) :: none :: lt) st h) : jx_W T Q kc ks n (l0 :: l1 :: l2 :: l3 :: l4 :: l5 :: l6 :: l7 :: l8 :: l9 :: l10 :: l11 :: lt) (jv_l x :: st) h := jr_lstoreG hc (by simp only [List.length_cons]; omega) hn k
theorem jx_as_at {cv : jx_V → Value} {ls : List (Option jx_V)} {j : Nat} {v : jx_V} (h : jx_at ls j = some (some v)) : ∃ k : Nat, (jx_as cv ls 0)[k]? = some (j, cv v) := List.getElem?_of_mem (jx_as_mem.mpr ⟨j, v, h, by rw [Nat.zero_add]⟩)
theorem jx_at_lt {α : Type} : ∀ {l : List α} {n : Nat} {x : α}, jx_at l n = some x → n < l.length
  | _ :: _, 0, _, _ => Nat.zero_lt_succ _
  | _ :: _, n + 1, _, h => Nat.succ_lt_succ (jx_at_lt (n := n) h)
  | [], n, _, h => by cases n <;> cases h
theorem jr_iincG {T : jx_P} {Q : Option jx_V → jx_H → Prop} {kc ks n : Nat} {ls : List (Option jx_V)} {st : List jx_V} {h : jx_H} {a : Nat} {z : Int} {v x : Int32} (hc : jx_at (jm_k (jt_Y T)) n = some (9, a, 0, z, v, 0, [])) (hl : jx_at ls a = some (some (jv_i x))) (hn : jx_np ls a = true) (k : jx_W T Q kc ks (n + 1) (jx_s1 ls a (some (jv_i (x + v)))) st h) : jx_W T Q kc ks n ls st h := by
  intro g p l e R s mI args below meth c C H locs lr pc Rp S L V St N0 hp
  obtain ⟨hx, hb, hml, hr, hown, hts, hlk, hnm, hK, hE, hg1, hR, hck, hal⟩ := id C
  obtain ⟨hd, hnx, hsd⟩ := jx_step hck hc rfl hp
  obtain ⟨kx, hkx⟩ := jx_as_at (cv := jx_cv (jt_sd T) g) hl
  have hz : Int32.ofInt z = v := of_decide_eq_true hsd
  exact lv_iinc (v := x + v) hx hb hd L.1 hkx (by rw [hz]) (by rw [← L.2]; exact jx_at_lt hl) rfl (fun lr2 hl2 => (k g p l e R s mI args below meth c C H locs lr2 _ Rp S ⟨jx_store1 (v := jv_i (x + v)) hn hl2, by rw [jx_s1_len]; exact L.2⟩ (jx_vl_s1 V trivial) St N0 (hnx rfl)))
theorem jr_iinc0 {T : jx_P} {Q : Option jx_V → jx_H → Prop} {kc ks n : Nat} {lt : List (Option jx_V)} {st : List jx_V} {h : jx_H} {z : Int} {v x : Int32} (hc : jx_at (jm_k (jt_Y T)) n = some (9, 0, 0, z, v, 0, [])) (hn : jx_np (some (jv_i x) :: lt) 0 = true) (k : jx_W T Q kc ks (n + 1) (some (jv_i (x + v)) :: lt) st h) : jx_W T Q kc ks n (some (jv_i x) :: lt) st h := jr_iincG hc rfl hn k
theorem jr_iinc1 {T : jx_P} {Q : Option jx_V → jx_H → Prop} {kc ks n : Nat} {l0 : Option jx_V} {lt : List (Option jx_V)} {st : List jx_V} {h : jx_H} {z : Int} {v x : Int32} (hc : jx_at (jm_k (jt_Y T)) n = some (9, 1, 0, z, v, 0, [])) (hn : jx_np (l0 :: some (jv_i x) :: lt) 1 = true) (k : jx_W T Q kc ks (n + 1) (l0 :: some (jv_i (x + v)) :: lt) st h) : jx_W T Q kc ks n (l0 :: some (jv_i x) :: lt) st h := jr_iincG hc rfl hn k
theorem jr_iinc2 {T : jx_P} {Q : Option jx_V → jx_H → Prop} {kc ks n : Nat} {l0 l1 : Option jx_V} {lt : List (Option jx_V)} {st : List jx_V} {h : jx_H} {z : Int} {v x : Int32} (hc : jx_at (jm_k (jt_Y T)) n = some (9, 2, 0, z, v, 0, [])) (hn : jx_np (l0 :: l1 :: some (jv_i x) :: lt) 2 = true) (k : jx_W T Q kc ks (n + 1) (l0 :: l1 :: some (jv_i (x + v)) :: lt) st h) : jx_W T Q kc ks n (l0 :: l1 :: some (jv_i x) :: lt) st h := jr_iincG hc rfl hn k
theorem jr_iinc3 {T : jx_P} {Q : Option jx_V → jx_H → Prop} {kc ks n : Nat} {l0 l1 l2 : Option jx_V} {lt : List (Option jx_V)} {st : List jx_V} {h : jx_H} {z : Int} {v x : Int32} (hc : jx_at (jm_k (jt_Y T)) n = some (9, 3, 0, z, v, 0, [])) (hn : jx_np (l0 :: l1 :: l2 :: some (jv_i x) :: lt) 3 = true) (k : jx_W T Q kc ks (n + 1) (l0 :: l1 :: l2 :: some (jv_i (x + v)) :: lt) st h) : jx_W T Q kc ks n (l0 :: l1 :: l2 :: some (jv_i x) :: lt) st h := jr_iincG hc rfl hn k
theorem jr_iinc4 {T : jx_P} {Q : Option jx_V → jx_H → Prop} {kc ks n : Nat} {l0 l1 l2 l3 : Option jx_V} {lt : List (Option jx_V)} {st : List jx_V} {h : jx_H} {z : Int} {v x : Int32} (hc : jx_at (jm_k (jt_Y T)) n = some (9, 4, 0, z, v, 0, [])) (hn : jx_np (l0 :: l1 :: l2 :: l3 :: some (jv_i x) :: lt) 4 = true) (k : jx_W T Q kc ks (n + 1) (l0 :: l1 :: l2 :: l3 :: some (jv_i (x + v)) :: lt) st h) : jx_W T Q kc ks n (l0 :: l1 :: l2 :: l3 :: some (jv_i x) :: lt) st h := jr_iincG hc rfl hn k
theorem jr_iinc5 {T : jx_P} {Q : Option jx_V → jx_H → Prop} {kc ks n : Nat} {l0 l1 l2 l3 l4 : Option jx_V} {lt : List (Option jx_V)} {st : List jx_V} {h : jx_H} {z : Int} {v x : Int32} (hc : jx_at (jm_k (jt_Y T)) n = some (9, 5, 0, z, v, 0, [])) (hn : jx_np (l0 :: l1 :: l2 :: l3 :: l4 :: some (jv_i x) :: lt) 5 = true) (k : jx_W T Q kc ks (n + 1) (l0 :: l1 :: l2 :: l3 :: l4 :: some (jv_i (x + v)) :: lt) st h) : jx_W T Q kc ks n (l0 :: l1 :: l2 :: l3 :: l4 :: some (jv_i x) :: lt) st h := jr_iincG hc rfl hn k
theorem jr_iinc6 {T : jx_P} {Q : Option jx_V → jx_H → Prop} {kc ks n : Nat} {l0 l1 l2 l3 l4 l5 : Option jx_V} {lt : List (Option jx_V)} {st : List jx_V} {h : jx_H} {z : Int} {v x : Int32} (hc : jx_at (jm_k (jt_Y T)) n = some (9, 6, 0, z, v, 0, [])) (hn : jx_np (l0 :: l1 :: l2 :: l3 :: l4 :: l5 :: some (jv_i x) :: lt) 6 = true) (k : jx_W T Q kc ks (n + 1) (l0 :: l1 :: l2 :: l3 :: l4 :: l5 :: some (jv_i (x + v)) :: lt) st h) : jx_W T Q kc ks n (l0 :: l1 :: l2 :: l3 :: l4 :: l5 :: some (jv_i x) :: lt) st h := jr_iincG hc rfl hn k
theorem jr_iinc7 {T : jx_P} {Q : Option jx_V → jx_H → Prop} {kc ks n : Nat} {l0 l1 l2 l3 l4 l5 l6 : Option jx_V} {lt : List (Option jx_V)} {st : List jx_V} {h : jx_H} {z : Int} {v x : Int32} (hc : jx_at (jm_k (jt_Y T)) n = some (9, 7, 0, z, v, 0, [])) (hn : jx_np (l0 :: l1 :: l2 :: l3 :: l4 :: l5 :: l6 :: some (jv_i x) :: lt) 7 = true) (k : jx_W T Q kc ks (n + 1) (l0 :: l1 :: l2 :: l3 :: l4 :: l5 :: l6 :: some (jv_i (x + v)) :: lt) st h) : jx_W T Q kc ks n (l0 :: l1 :: l2 :: l3 :: l4 :: l5 :: l6 :: some (jv_i x) :: lt) st h := jr_iincG hc rfl hn k
theorem jr_iinc8 {T : jx_P} {Q : Option jx_V → jx_H → Prop} {kc ks n : Nat} {l0 l1 l2 l3 l4 l5 l6 l7 : Option jx_V} {lt : List (Option jx_V)} {st : List jx_V} {h : jx_H} {z : Int} {v x : Int32} (hc : jx_at (jm_k (jt_Y T)) n = some (9, 8, 0, z, v, 0, [])) (hn : jx_np (l0 :: l1 :: l2 :: l3 :: l4 :: l5 :: l6 :: l7 :: some (jv_i x) :: lt) 8 = true) (k : jx_W T Q kc ks (n + 1) (l0 :: l1 :: l2 :: l3 :: l4 :: l5 :: l6 :: l7 :: some (jv_i (x + v)) :: lt) st h) : jx_W T Q kc ks n (l0 :: l1 :: l2 :: l3 :: l4 :: l5 :: l6 :: l7 :: some (jv_i x) :: lt) st h := jr_iincG hc rfl hn k
theorem jr_iinc9 {T : jx_P} {Q : Option jx_V → jx_H → Prop} {kc ks n : Nat} {l0 l1 l2 l3 l4 l5 l6 l7 l8 : Option jx_V} {lt : List (Option jx_V)} {st : List jx_V} {h : jx_H} {z : Int} {v x : Int32} (hc : jx_at (jm_k (jt_Y T)) n = some (9, 9, 0, z, v, 0, [])) (hn : jx_np (l0 :: l1 :: l2 :: l3 :: l4 :: l5 :: l6 :: l7 :: l8 :: some (jv_i x) :: lt) 9 = true) (k : jx_W T Q kc ks (n + 1) (l0 :: l1 :: l2 :: l3 :: l4 :: l5 :: l6 :: l7 :: l8 :: some (jv_i (x + v)) :: lt) st h) : jx_W T Q kc ks n (l0 :: l1 :: l2 :: l3 :: l4 :: l5 :: l6 :: l7 :: l8 :: some (jv_i x) :: lt) st h := jr_iincG hc rfl hn k
theorem jr_iinc10 {T : jx_P} {Q : Option jx_V → jx_H → Prop} {kc ks n : Nat} {l0 l1 l2 l3 l4 l5 l6 l7 l8 l9 : Option jx_V} {lt : List (Option jx_V)} {st : List jx_V} {h : jx_H} {z : Int} {v x : Int32} (hc : jx_at (jm_k (jt_Y T)) n = some (9, 10, 0, z, v, 0, [])) (hn : jx_np (l0 :: l1 :: l2 :: l3 :: l4 :: l5 :: l6 :: l7 :: l8 :: l9 :: some (jv_i x) :: lt) 10 = true) (k : jx_W T Q kc ks (n + 1) (l0 :: l1 :: l2 :: l3 :: l4 :: l5 :: l6 :: l7 :: l8 :: l9 :: some (jv_i (x + v)) :: lt) st h) : jx_W T Q kc ks n (l0 :: l1 :: l2 :: l3 :: l4 :: l5 :: l6 :: l7 :: l8 :: l9 :: some (jv_i x) :: lt) st h := jr_iincG hc rfl hn k
theorem jr_goto {T : jx_P} {Q : Option jx_V → jx_H → Prop} {kc ks n : Nat} {ls : List (Option jx_V)} {st : List jx_V} {h : jx_H} {b : Nat} {z : Int} (hc : jx_at (jm_k (jt_Y T)) n = some (jx_oz 50 0 b z)) (k : jx_W T Q kc ks b ls st h) : jx_W T Q kc ks n ls st h := by
  intro g p l e R s mI args below meth c C H locs lr pc Rp S L V St N0 hp
  obtain ⟨hx, hb, hml, hr, hown, hts, hlk, hnm, hK, hE, hg1, hR, hck, hal⟩ := id C
  obtain ⟨hd, hnx, hsd⟩ := jx_step hck hc rfl hp
  obtain ⟨t, ht, hz⟩ := jx_target (show jx_to _ _ b z = true from hsd)
  exact lv_goto hx hb hd hz (k g p l e R s mI args below meth c C H locs lr _ Rp S L V St N0 ht)
theorem jr_if_eq {T : jx_P} {Q : Option jx_V → jx_H → Prop} {kc ks n : Nat} {ls : List (Option jx_V)} {st : List jx_V} {h : jx_H} {b : Nat} {z : Int} {x : Int32} (hc : jx_at (jm_k (jt_Y T)) n = some (jx_oz 51 0 b z)) (kt : x = 0 → jx_W T Q kc ks b ls st h) (kf : ¬ x = 0 → jx_W T Q kc ks (n + 1) ls st h) : jx_W T Q kc ks n ls (jv_i x :: st) h := by
  intro g p l e R s mI args below meth c C H locs lr pc Rp S L V St N0 hp
  obtain ⟨hx, hb, hml, hr, hown, hts, hlk, hnm, hK, hE, hg1, hR, hck, hal⟩ := id C
  obtain ⟨hd, hnx, hsd⟩ := jx_step hck hc rfl hp
  obtain ⟨t, ht, hz⟩ := jx_target (show jx_to _ _ b z = true from hsd)
  exact lv_if_eq hx hb hd hz (fun hcond => (kt hcond g p l e R s mI args below meth c C H locs lr _ Rp S L V St.2 N0 ht)) (fun hcond => (kf hcond g p l e R s mI args below meth c C H locs lr _ Rp S L V St.2 N0 (hnx rfl)))
theorem jr_icmp_eq {T : jx_P} {Q : Option jx_V → jx_H → Prop} {kc ks n : Nat} {ls : List (Option jx_V)} {st : List jx_V} {h : jx_H} {b : Nat} {z : Int} {x y : Int32} (hc : jx_at (jm_k (jt_Y T)) n = some (jx_oz 52 0 b z)) (kt : x = y → jx_W T Q kc ks b ls st h) (kf : ¬ x = y → jx_W T Q kc ks (n + 1) ls st h) : jx_W T Q kc ks n ls (jv_i y :: jv_i x :: st) h := by
  intro g p l e R s mI args below meth c C H locs lr pc Rp S L V St N0 hp
  obtain ⟨hx, hb, hml, hr, hown, hts, hlk, hnm, hK, hE, hg1, hR, hck, hal⟩ := id C
  obtain ⟨hd, hnx, hsd⟩ := jx_step hck hc rfl hp
  obtain ⟨t, ht, hz⟩ := jx_target (show jx_to _ _ b z = true from hsd)
  exact lv_icmp_eq hx hb hd hz (fun hcond => (kt hcond g p l e R s mI args below meth c C H locs lr _ Rp S L V St.2.2 N0 ht)) (fun hcond => (kf hcond g p l e R s mI args below meth c C H locs lr _ Rp S L V St.2.2 N0 (hnx rfl)))
theorem jr_if_ne {T : jx_P} {Q : Option jx_V → jx_H → Prop} {kc ks n : Nat} {ls : List (Option jx_V)} {st : List jx_V} {h : jx_H} {b : Nat} {z : Int} {x : Int32} (hc : jx_at (jm_k (jt_Y T)) n = some (jx_oz 51 1 b z)) (kt : ¬ x = 0 → jx_W T Q kc ks b ls st h) (kf : x = 0 → jx_W T Q kc ks (n + 1) ls st h) : jx_W T Q kc ks n ls (jv_i x :: st) h := by
  intro g p l e R s mI args below meth c C H locs lr pc Rp S L V St N0 hp
  obtain ⟨hx, hb, hml, hr, hown, hts, hlk, hnm, hK, hE, hg1, hR, hck, hal⟩ := id C
  obtain ⟨hd, hnx, hsd⟩ := jx_step hck hc rfl hp
  obtain ⟨t, ht, hz⟩ := jx_target (show jx_to _ _ b z = true from hsd)
  exact lv_if_ne hx hb hd hz (fun hcond => (kt hcond g p l e R s mI args below meth c C H locs lr _ Rp S L V St.2 N0 ht)) (fun hcond => (kf hcond g p l e R s mI args below meth c C H locs lr _ Rp S L V St.2 N0 (hnx rfl)))
theorem jr_icmp_ne {T : jx_P} {Q : Option jx_V → jx_H → Prop} {kc ks n : Nat} {ls : List (Option jx_V)} {st : List jx_V} {h : jx_H} {b : Nat} {z : Int} {x y : Int32} (hc : jx_at (jm_k (jt_Y T)) n = some (jx_oz 52 1 b z)) (kt : ¬ x = y → jx_W T Q kc ks b ls st h) (kf : x = y → jx_W T Q kc ks (n + 1) ls st h) : jx_W T Q kc ks n ls (jv_i y :: jv_i x :: st) h := by
  intro g p l e R s mI args below meth c C H locs lr pc Rp S L V St N0 hp
  obtain ⟨hx, hb, hml, hr, hown, hts, hlk, hnm, hK, hE, hg1, hR, hck, hal⟩ := id C
  obtain ⟨hd, hnx, hsd⟩ := jx_step hck hc rfl hp
  obtain ⟨t, ht, hz⟩ := jx_target (show jx_to _ _ b z = true from hsd)
  exact lv_icmp_ne hx hb hd hz (fun hcond => (kt hcond g p l e R s mI args below meth c C H locs lr _ Rp S L V St.2.2 N0 ht)) (fun hcond => (kf hcond g p l e R s mI args below meth c C H locs lr _ Rp S L V St.2.2 N0 (hnx rfl)))
theorem jr_if_lt {T : jx_P} {Q : Option jx_V → jx_H → Prop} {kc ks n : Nat} {ls : List (Option jx_V)} {st : List jx_V} {h : jx_H} {b : Nat} {z : Int} {x : Int32} (hc : jx_at (jm_k (jt_Y T)) n = some (jx_oz 51 2 b z)) (kt : x < 0 → jx_W T Q kc ks b ls st h) (kf : ¬ x < 0 → jx_W T Q kc ks (n + 1) ls st h) : jx_W T Q kc ks n ls (jv_i x :: st) h := by
  intro g p l e R s mI args below meth c C H locs lr pc Rp S L V St N0 hp
  obtain ⟨hx, hb, hml, hr, hown, hts, hlk, hnm, hK, hE, hg1, hR, hck, hal⟩ := id C
  obtain ⟨hd, hnx, hsd⟩ := jx_step hck hc rfl hp
  obtain ⟨t, ht, hz⟩ := jx_target (show jx_to _ _ b z = true from hsd)
  exact lv_if_lt hx hb hd hz (fun hcond => (kt hcond g p l e R s mI args below meth c C H locs lr _ Rp S L V St.2 N0 ht)) (fun hcond => (kf hcond g p l e R s mI args below meth c C H locs lr _ Rp S L V St.2 N0 (hnx rfl)))
theorem jr_icmp_lt {T : jx_P} {Q : Option jx_V → jx_H → Prop} {kc ks n : Nat} {ls : List (Option jx_V)} {st : List jx_V} {h : jx_H} {b : Nat} {z : Int} {x y : Int32} (hc : jx_at (jm_k (jt_Y T)) n = some (jx_oz 52 2 b z)) (kt : x < y → jx_W T Q kc ks b ls st h) (kf : ¬ x < y → jx_W T Q kc ks (n + 1) ls st h) : jx_W T Q kc ks n ls (jv_i y :: jv_i x :: st) h := by
  intro g p l e R s mI args below meth c C H locs lr pc Rp S L V St N0 hp
  obtain ⟨hx, hb, hml, hr, hown, hts, hlk, hnm, hK, hE, hg1, hR, hck, hal⟩ := id C
  obtain ⟨hd, hnx, hsd⟩ := jx_step hck hc rfl hp
  obtain ⟨t, ht, hz⟩ := jx_target (show jx_to _ _ b z = true from hsd)
  exact lv_icmp_lt hx hb hd hz (fun hcond => (kt hcond g p l e R s mI args below meth c C H locs lr _ Rp S L V St.2.2 N0 ht)) (fun hcond => (kf hcond g p l e R s mI args below meth c C H locs lr _ Rp S L V St.2.2 N0 (hnx rfl)))
theorem jr_if_ge {T : jx_P} {Q : Option jx_V → jx_H → Prop} {kc ks n : Nat} {ls : List (Option jx_V)} {st : List jx_V} {h : jx_H} {b : Nat} {z : Int} {x : Int32} (hc : jx_at (jm_k (jt_Y T)) n = some (jx_oz 51 3 b z)) (kt : 0 ≤ x → jx_W T Q kc ks b ls st h) (kf : ¬ 0 ≤ x → jx_W T Q kc ks (n + 1) ls st h) : jx_W T Q kc ks n ls (jv_i x :: st) h := by
  intro g p l e R s mI args below meth c C H locs lr pc Rp S L V St N0 hp
  obtain ⟨hx, hb, hml, hr, hown, hts, hlk, hnm, hK, hE, hg1, hR, hck, hal⟩ := id C
  obtain ⟨hd, hnx, hsd⟩ := jx_step hck hc rfl hp
  obtain ⟨t, ht, hz⟩ := jx_target (show jx_to _ _ b z = true from hsd)
  exact lv_if_ge hx hb hd hz (fun hcond => (kt hcond g p l e R s mI args below meth c C H locs lr _ Rp S L V St.2 N0 ht)) (fun hcond => (kf hcond g p l e R s mI args below meth c C H locs lr _ Rp S L V St.2 N0 (hnx rfl)))
theorem jr_icmp_ge {T : jx_P} {Q : Option jx_V → jx_H → Prop} {kc ks n : Nat} {ls : List (Option jx_V)} {st : List jx_V} {h : jx_H} {b : Nat} {z : Int} {x y : Int32} (hc : jx_at (jm_k (jt_Y T)) n = some (jx_oz 52 3 b z)) (kt : y ≤ x → jx_W T Q kc ks b ls st h) (kf : ¬ y ≤ x → jx_W T Q kc ks (n + 1) ls st h) : jx_W T Q kc ks n ls (jv_i y :: jv_i x :: st) h := by
  intro g p l e R s mI args below meth c C H locs lr pc Rp S L V St N0 hp
  obtain ⟨hx, hb, hml, hr, hown, hts, hlk, hnm, hK, hE, hg1, hR, hck, hal⟩ := id C
  obtain ⟨hd, hnx, hsd⟩ := jx_step hck hc rfl hp
  obtain ⟨t, ht, hz⟩ := jx_target (show jx_to _ _ b z = true from hsd)
  exact lv_icmp_ge hx hb hd hz (fun hcond => (kt hcond g p l e R s mI args below meth c C H locs lr _ Rp S L V St.2.2 N0 ht)) (fun hcond => (kf hcond g p l e R s mI args below meth c C H locs lr _ Rp S L V St.2.2 N0 (hnx rfl)))
theorem jr_if_gt {T : jx_P} {Q : Option jx_V → jx_H → Prop} {kc ks n : Nat} {ls : List (Option jx_V)} {st : List jx_V} {h : jx_H} {b : Nat} {z : Int} {x : Int32} (hc : jx_at (jm_k (jt_Y T)) n = some (jx_oz 51 4 b z)) (kt : 0 < x → jx_W T Q kc ks b ls st h) (kf : ¬ 0 < x → jx_W T Q kc ks (n + 1) ls st h) : jx_W T Q kc ks n ls (jv_i x :: st) h := by
  intro g p l e R s mI args below meth c C H locs lr pc Rp S L V St N0 hp
  obtain ⟨hx, hb, hml, hr, hown, hts, hlk, hnm, hK, hE, hg1, hR, hck, hal⟩ := id C
  obtain ⟨hd, hnx, hsd⟩ := jx_step hck hc rfl hp
  obtain ⟨t, ht, hz⟩ := jx_target (show jx_to _ _ b z = true from hsd)
  exact lv_if_gt hx hb hd hz (fun hcond => (kt hcond g p l e R s mI args below meth c C H locs lr _ Rp S L V St.2 N0 ht)) (fun hcond => (kf hcond g p l e R s mI args below meth c C H locs lr _ Rp S L V St.2 N0 (hnx rfl)))
theorem jr_icmp_gt {T : jx_P} {Q : Option jx_V → jx_H → Prop} {kc ks n : Nat} {ls : List (Option jx_V)} {st : List jx_V} {h : jx_H} {b : Nat} {z : Int} {x y : Int32} (hc : jx_at (jm_k (jt_Y T)) n = some (jx_oz 52 4 b z)) (kt : y < x → jx_W T Q kc ks b ls st h) (kf : ¬ y < x → jx_W T Q kc ks (n + 1) ls st h) : jx_W T Q kc ks n ls (jv_i y :: jv_i x :: st) h := by
  intro g p l e R s mI args below meth c C H locs lr pc Rp S L V St N0 hp
  obtain ⟨hx, hb, hml, hr, hown, hts, hlk, hnm, hK, hE, hg1, hR, hck, hal⟩ := id C
  obtain ⟨hd, hnx, hsd⟩ := jx_step hck hc rfl hp
  obtain ⟨t, ht, hz⟩ := jx_target (show jx_to _ _ b z = true from hsd)
  exact lv_icmp_gt hx hb hd hz (fun hcond => (kt hcond g p l e R s mI args below meth c C H locs lr _ Rp S L V St.2.2 N0 ht)) (fun hcond => (kf hcond g p l e R s mI args below meth c C H locs lr _ Rp S L V St.2.2 N0 (hnx rfl)))
theorem jr_if_le {T : jx_P} {Q : Option jx_V → jx_H → Prop} {kc ks n : Nat} {ls : List (Option jx_V)} {st : List jx_V} {h : jx_H} {b : Nat} {z : Int} {x : Int32} (hc : jx_at (jm_k (jt_Y T)) n = some (jx_oz 51 5 b z)) (kt : x ≤ 0 → jx_W T Q kc ks b ls st h) (kf : ¬ x ≤ 0 → jx_W T Q kc ks (n + 1) ls st h) : jx_W T Q kc ks n ls (jv_i x :: st) h := by
  intro g p l e R s mI args below meth c C H locs lr pc Rp S L V St N0 hp
  obtain ⟨hx, hb, hml, hr, hown, hts, hlk, hnm, hK, hE, hg1, hR, hck, hal⟩ := id C
  obtain ⟨hd, hnx, hsd⟩ := jx_step hck hc rfl hp
  obtain ⟨t, ht, hz⟩ := jx_target (show jx_to _ _ b z = true from hsd)
  exact lv_if_le hx hb hd hz (fun hcond => (kt hcond g p l e R s mI args below meth c C H locs lr _ Rp S L V St.2 N0 ht)) (fun hcond => (kf hcond g p l e R s mI args below meth c C H locs lr _ Rp S L V St.2 N0 (hnx rfl)))
theorem jr_icmp_le {T : jx_P} {Q : Option jx_V → jx_H → Prop} {kc ks n : Nat} {ls : List (Option jx_V)} {st : List jx_V} {h : jx_H} {b : Nat} {z : Int} {x y : Int32} (hc : jx_at (jm_k (jt_Y T)) n = some (jx_oz 52 5 b z)) (kt : x ≤ y → jx_W T Q kc ks b ls st h) (kf : ¬ x ≤ y → jx_W T Q kc ks (n + 1) ls st h) : jx_W T Q kc ks n ls (jv_i y :: jv_i x :: st) h := by
  intro g p l e R s mI args below meth c C H locs lr pc Rp S L V St N0 hp
  obtain ⟨hx, hb, hml, hr, hown, hts, hlk, hnm, hK, hE, hg1, hR, hck, hal⟩ := id C
  obtain ⟨hd, hnx, hsd⟩ := jx_step hck hc rfl hp
  obtain ⟨t, ht, hz⟩ := jx_target (show jx_to _ _ b z = true from hsd)
  exact lv_icmp_le hx hb hd hz (fun hcond => (kt hcond g p l e R s mI args below meth c C H locs lr _ Rp S L V St.2.2 N0 ht)) (fun hcond => (kf hcond g p l e R s mI args below meth c C H locs lr _ Rp S L V St.2.2 N0 (hnx rfl)))
def jx_sw (x : Int) (P : Nat → Prop) (d : Nat) : List (Int × Nat × Int) → Prop
  | [] => P d
  | (key, t, _) :: l => (x = key → P t) ∧ (¬ x = key → jx_sw x P d l)
theorem jx_sw_out {x : Int} {P : Nat → Prop} {d : Nat} : ∀ {l : List (Int × Nat × Int)}, jx_sw x P d l → (∀ e ∈ l, e.1 ≠ x) → P d
  | [], h, _ => h
  | (key, t, o) :: l, h, hn => jx_sw_out (h.2 (fun z => hn _ List.mem_cons_self z.symm)) (fun e he => hn e (List.mem_cons_of_mem _ he))
theorem jx_sw_in {x : Int} {P : Nat → Prop} {d : Nat} : ∀ {l : List (Int × Nat × Int)}, jx_sw x P d l → (∃ e ∈ l, e.1 = x) → ∃ e ∈ l, e.1 = x ∧ P e.2.1 ∧ Op.lookupswitch.offset (l.map (fun e => (e.1, e.2.2))) 0 x = e.2.2
  | [], _, h => by obtain ⟨e, he, -⟩ := h; cases he
  | (key, t, o) :: l, h, hn => by
    by_cases hk : x = key
    · exact ⟨_, List.mem_cons_self, hk.symm, h.1 hk, by simp [Op.lookupswitch.offset, hk]⟩
    · obtain ⟨e, he, h1, h2, h3⟩ := jx_sw_in (h.2 hk) (by
        obtain ⟨e, he, h1⟩ := hn
        rcases List.mem_cons.mp he with rfl | he
        · exact absurd h1.symm hk
        · exact ⟨e, he, h1⟩)
      refine ⟨e, List.mem_cons_of_mem _ he, h1, h2, ?_⟩
      rw [← h3]
      simp [Op.lookupswitch.offset, Ne.symm hk, fun z => hk (Eq.symm z)]
