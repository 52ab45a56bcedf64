theorem jlw_inst : ∀ c, c < 12 → Cond.instantiable (jx_C c) (jx_N c) ∈ lw_tbl := jx_12 ⟨(jx_pw_in (q := (2, 222)) rfl), (jx_pw_in (q := (2, 59)) rfl), (jx_pw_in (q := (1, 141)) rfl), (jx_pw_in (q := (2, 175)) rfl), (jx_pw_in (q := (3, 13)) rfl), (jx_pw_in (q := (2, 114)) rfl), (jx_pw_in (q := (2, 20)) rfl), (jx_pw_in (q := (1, 134)) rfl), (jx_pw_in (q := (2, 152)) rfl), (jx_pw_in (q := (1, 30)) rfl), (jx_pw_in (q := (1, 22)) rfl), (jx_pw_in (q := (7, 9)) rfl)⟩
theorem jlw_arr {ty : FieldType} {args : Array Value} {s : State} (h : (Cond.arrayClass ty).before args s = true) : ∃ cA, s.vm.findClass ("[" ++ ty.toString) = some cA ∧ ArrOfT s cA ty := by
  obtain ⟨cA, k, comp, h1, h2, h3⟩ := Cond.arrayClass_spec h
  exact ⟨cA, h1, fun n z => ⟨fun q h => (by cases h), k, h2, comp, h3⟩⟩
theorem jlw_arrO {C : String} {args : Array Value} {s : State} (h : (Cond.arrayOver (.object C)).before args s = true) : ∃ cA, ArrOfT s cA (.object C) ∧ va_RA s cA (.object C) := by
  obtain ⟨comp, cA, k, h1, h2, h3, h4, h5⟩ := Cond.arrayOver_spec h
  exact ⟨cA, fun n z => ⟨fun q h => (by cases h), k, h3, comp, h4⟩, k, comp, h3, h4, h1, h5⟩
theorem jlw_arrA {t : FieldType} {args : Array Value} {s : State} (h : (Cond.arrayOver (.array t)).before args s = true) : ∃ cA, ArrOfT s cA (.array t) ∧ va_RA s cA (.array t) := by
  obtain ⟨comp, cA, k, h1, h2, h3, h4, h5⟩ := arrayOverA_spec h
  exact ⟨cA, fun n z => ⟨fun q h => (by cases h), k, h3, comp, h4⟩, h5⟩
theorem jlw_ws : ∀ w ∈ jx_ws, w ∈ lw_tbl := fun w h => (List.mem_filter.mp h).1
theorem jlw_tys {args : Array Value} {s : State} (htl : ∀ w ∈ lw_tbl, w.before args s = true) : ∀ k, ∃ cA, k < 8 → ArrOfT s cA (jx_et k) ∧ va_RA s cA (jx_et k) := by
  intro k
  have pr : ∀ {ty : FieldType}, (Cond.arrayClass ty).before args s = true → (∀ cA, s.vm.findClass ("[" ++ ty.toString) = some cA → va_RA s cA ty) → ∃ cA, k < 8 → ArrOfT s cA ty ∧ va_RA s cA ty := fun h f => by
    obtain ⟨cA, h1, h2⟩ := jlw_arr h
    exact ⟨cA, fun _ => ⟨h2, f cA h1⟩⟩
  match k with
  | 0 => exact pr (htl _ (jx_pw_in (q := (1, 132)) rfl)) (fun _ h => h)
  | 1 => exact pr (htl _ (jx_pw_in (q := (1, 132)) rfl)) (fun _ h => h)
  | 2 => exact pr (htl _ (jx_pw_in (q := (1, 130)) rfl)) (fun _ h => h)
  | 3 => exact pr (htl _ (jx_pw_in (q := (2, 111)) rfl)) (fun _ h => h)
  | 4 => exact pr (htl _ (jx_pw_in (q := (1, 131)) rfl)) (fun _ h => h)
  | 5 => obtain ⟨cA, h⟩ := jlw_arrO (C := RX2) (htl _ (jx_pw_in (q := (1, 140)) rfl)); exact ⟨cA, fun _ => h⟩
  | 6 => obtain ⟨cA, h⟩ := jlw_arrO (C := RX1) (htl _ (jx_pw_in (q := (2, 112)) rfl)); exact ⟨cA, fun _ => h⟩
  | 7 => obtain ⟨cA, h⟩ := jlw_arrA (t := .int) (htl _ (jx_pw_in (q := (3, 19)) rfl)); exact ⟨cA, fun _ => h⟩
  | n + 8 => exact ⟨0, fun h => absurd h (by omega)⟩
theorem jlw_cls {args : Array Value} {s : State} (htl : ∀ w ∈ lw_tbl, w.before args s = true) : ∀ c, ∃ q : ClassId × (Nat → Nat), c < 12 → u_Kn s (jx_C c) (jx_T c) (jx_N c) q.1 q.2 := by
  intro c
  by_cases hc : c < 12
  · obtain ⟨cC, iS, h⟩ := u_known (C := jx_C c) (T := jx_T c) (N := jx_N c) (n := jx_N c) (fun w hw => htl w (jlw_ws w hw)) (jx_lays c hc) (htl _ (jlw_inst c hc))
    exact ⟨(cC, iS), fun _ => h⟩
  · exact ⟨(0, fun _ => 0), fun h => absurd h hc⟩
def jlw_tm (i : Nat) : Term := .string (jx_ownJ i) (jx_idxJ i)
def jlw_fl : List Cond := flatC (Jvm.Cond.and given_1 narrow_1)
theorem jlw_f0 : ∀ i, i < 2 → jlw_fl[if i = 0 then 33 else 177]? = some (Cond.exactly (jlw_tm i) "java/lang/String") := by decide +kernel
theorem jlw_f1 : ∀ i, i < 2 → jlw_fl[if i = 0 then 34 else 178]? = some (Cond.eq (.field (jlw_tm i) "java/lang/String" "coder" "B") (.int 0)) := by decide +kernel
theorem jlw_f2 : ∀ i, i < 2 → jlw_fl[if i = 0 then 35 else 179]? = some (Cond.arrayOf (.field (jlw_tm i) "java/lang/String" "value" "[B") .byte) := by decide +kernel
theorem jlw_f3 : ∀ i, i < 2 → jlw_fl[if i = 0 then 36 else 180]? = some (Cond.eq (.length (.field (jlw_tm i) "java/lang/String" "value" "[B")) (.int (Int32.ofNat (jx_lenJ.getD i 0)))) := by decide +kernel
set_option maxRecDepth 100000 in
theorem jlw_f4 : ∀ i, i < 2 → ∀ j, j < jx_lenJ.getD i 0 → jlw_fl[(if i = 0 then 37 else 181) + j]? = some (Cond.eq (.elem (.field (jlw_tm i) "java/lang/String" "value" "[B") (.int (Int32.ofNat j))) (.int ((jx_bytJ.getD i []).getD j 0))) := by decide +kernel
theorem jlw_f5 : jlw_fl[192]? = some (Cond.not (Cond.eq (jlw_tm 0) (jlw_tm 1))) := by decide +kernel
theorem jlw_f6 : jlw_fl[4]? = some (Cond.eq (.static "java/lang/String" "COMPACT_STRINGS" "Z") (.int 1)) := by decide +kernel
theorem jlw_f7 : jlw_fl[5]? = some (Cond.isRef (.static "jdk/internal/util/Preconditions" "SIOOBE_FORMATTER" "Ljava/util/function/BiFunction;")) := by decide +kernel
/-- the law's start has all that the walks need -/
theorem jlw_env {p : Program} {s : State} {m : MethodId} {meth : Method} {c : Code} {b L : Nat} {xs : Nat → Int32} (C0 : lw_At p s m meth c b L xs) : ∃ G : jlw_G, jlw_C p s m meth c b L xs G := by
  obtain ⟨hx, hb, hr, hml, hown, htl, hX, hbl, hlk, hgv⟩ := id C0
  have hs : ∀ w ∈ jlw_fl, w.before #[Value.ref b] s = true := flat_of_before _ hgv
  have at' : ∀ {k : Nat} {w : Cond}, jlw_fl[k]? = some w → w.before #[Value.ref b] s = true := fun h => hs _ (List.mem_of_getElem? h)
  have hA : ∀ a : Nat, a < s.heap.size → ¬ jlw_A s a := fun a h => Nat.not_le.mpr h
  obtain ⟨fc, hfc⟩ := Classical.axiomOfChoice (jlw_cls htl)
  obtain ⟨ft, hft⟩ := Classical.axiomOfChoice (jlw_tys htl)
  obtain ⟨adK, adV, hS, hR⟩ := vk_Sof (N := 2) (tm := jlw_tm) (len := jx_lenJ) (byt := jx_bytJ) (A := jlw_A s) (s := s) (args := #[Value.ref b]) (by decide +kernel) (fun i hi => at' (jlw_f0 i hi)) (fun i hi => at' (jlw_f1 i hi)) (fun i hi => at' (jlw_f2 i hi)) (fun i hi => at' (jlw_f3 i hi)) (fun i hi j hj => at' (jlw_f4 i hi j hj))
    (fun i j hi hj hne => by
      rcases (show (i = 0 ∧ j = 1) ∨ (i = 1 ∧ j = 0) by omega) with ⟨rfl, rfl⟩ | ⟨rfl, rfl⟩
      · exact Or.inl (at' jlw_f5)
      · exact Or.inr (at' jlw_f5)) hA
  have hZ1 : va_Z "java/lang/String" "COMPACT_STRINGS" "Z" (.int 1) (jlw_A s) s s.heap := va_Zof (htl _ (jx_pw_in (q := (1, 45)) rfl)) (htl _ (jx_pw_in (q := (1, 3)) rfl)) (va_eqi (at' jlw_f6)) hA
  have hZ2 : ∃ r : Option Nat, va_Z "jdk/internal/util/Preconditions" "SIOOBE_FORMATTER" "Ljava/util/function/BiFunction;" (va_rf r) (jlw_A s) s s.heap := by
    rcases va_Zqof (htl _ (jx_pw_in (q := (1, 61)) rfl)) (htl _ (jx_pw_in (q := (1, 5)) rfl)) (at' jlw_f7) hA with h | ⟨t, h⟩
    · exact ⟨none, h⟩
    · exact ⟨some t, h⟩
  obtain ⟨r, hZ2⟩ := hZ2
  refine ⟨((fun c => (fc c).1, fun c => (fc c).2), ft, adK, adV, r), C0, ⟨fun k q hk => ?_, fun k q hk => ?_⟩, ⟨hS, fun i hi => ?_, hZ1, hZ2, va_Nw.of rfl (htl _ (jx_pw_in (q := (5, 33)) rfl)), va_Nw.of rfl (htl _ (jx_pw_in (q := (6, 12)) rfl)), va_AO.of (htl _ (jx_pw_in (q := (1, 140)) rfl)), va_AO.of (htl _ (jx_pw_in (q := (2, 112)) rfl)), htl _ (jx_pw_in (q := (3, 19)) rfl)⟩, fun w hw => htl w (jlw_ws w hw)⟩
  · have hk12 : k < 12 := (List.getElem?_eq_some_iff.mp hk).1
    rw [jx_cl_at k hk12] at hk
    cases hk
    exact hfc k hk12
  · have hk8 : k < 8 := by have := (List.getElem?_eq_some_iff.mp hk).1; simpa [jx_tys] using this
    rw [jx_tys_at hk8] at hk
    cases hk
    exact hft k hk8
  · rcases (show i = 0 ∨ i = 1 by omega) with rfl | rfl
    · exact vk_R.of (htl _ (jx_pw_in (q := (1, 35)) rfl)) (hR 0 (by decide))
    · exact vk_R.of (htl _ (jx_pw_in (q := (3, 159)) rfl)) (hR 1 (by decide))
section JL2
variable {p : Program} {l : Launch} {e : Env} {s : State} {m : MethodId} {below : List Frame} {meth : Method} {c : Code} {b L : Nat} {xs : Nat → Int32} {G : jlw_G} {H : Heap} {locs : List Loc} {kc ks pc z : Nat} {lr : Array Slot} {Z : State → Prop} {rest : List Value} {Y' : jx_M} {d sd ck bS mc ms : Nat} {hS : jx_H} {Q : Option jx_V → jx_H → Prop}
theorem jlw_rp0 {sd : Nat} {G : jlw_G} {H : Heap} : jx_rp sd true (H.size, G) jz0 H :=
  ⟨fun j x hj => (by rw [show jx_wd sd (H.size, G) jz0 = [] from rfl] at hj; simp at hj), Nat.zero_le _, fun _ => rfl, fun z => (by cases z), fun q k i hq => absurd hq (Nat.not_lt_zero _)⟩
/-- the law makes an object: a world begins -/
theorem jlw_new {ci : Nat} (C : jlw_C p s m meth c b L xs G) (hd : decode code pc = .ok (.new z, 3)) (w1 : Cond.classLink R_law z (jx_C ci) ∈ lw_tbl) (w3 : Cond.initialized (jx_C ci) ∈ lw_tbl) (hci : ci < 12) (hq : (jx_cells sd)[0]? = some (ci, 0)) (hkc : kc + 1 ≤ 600000) (hks : ks + jx_N ci ≤ 7302250) (S : va_S (jlw_A s) s.heap H locs)
    (k : ∀ H1 : Heap, jx_rp sd true (H.size, G) (ju_z jz0 ci 0) H1 → H1.size = H.size + 1 → (∀ x : Nat, x < H.size → H1[x]? = H[x]?) → va_S (jlw_A s) s.heap H1 locs → W p l e room_1 s m #[Value.ref b] below meth c H1 locs (kc + 1) (ks + jx_N ci) Z (F0 m (pc + 3) lr (.ref H.size :: rest))) :
    W p l e room_1 s m #[Value.ref b] below meth c H locs kc ks Z (F0 m pc lr rest) := by
  obtain ⟨⟨hx, hb, hr, hml, hown, htl, hX, hbl, hlk, hgv⟩, hK, hE, hts⟩ := C
  have hKn := hK.1 ci _ (jx_cl_at ci hci)
  refine W.newcK hx hb hown (htl _ w1) (htl _ (jlw_inst ci hci)) (htl _ w3) rfl hd hkc hks hKn.2.1 rfl fun H1 kC hkC e1 z1 o1 => ?_
  have hat1 : va_at G.1 jx_cl (H.size + jh_n jz0, jx_en sd (H.size, G) (ju_z jz0 ci 0) ci 0) H1 := by
    rw [jx_en_obj hci]
    exact ⟨_, jx_cl_at ci hci, (u_born (jx_ty ci) hts (jx_lays ci hci) hKn hkC e1 (jx_ty_ok ci hci)).to (jx_dvl hci)⟩
  exact k H1 (jx_grow jlw_rp0 hq hat1 z1 o1) z1 o1 (jx_SG S z1 o1)
/-- the law's call of a constructor -/
theorem jlw_init {hF : jx_H} (C : jlw_C p s m meth c b L xs G) (hlr : lr.size = 4) (hd : decode code pc = .ok (.invokespecial z, 3)) (hlink : (Cond.methodLink R_law z Y'.1) ∈ lw_tbl) (hf : jx_fa Y') (hkd : Y'.2.2.2.2.2.1 = 2) (hrn : Y'.2.2.2.1 = none) (hal2 : 0 = Y'.2.2.2.2.1) (hck2 : ck < 12)
    (hL2 : (jx_ea [jv_r ck 0]).length ≤ Y'.2.2.1 ∧ Y'.2.2.1 ≤ 41) (hd2 : d ≤ 1000) (hst2 : (rest.map fun v => v.category).sum ≤ 8) (hq0 : (jx_cells sd)[0]? = some (ck, 0)) (hbS : s.heap.size ≤ bS) (hkc : kc + mc ≤ 600000) (hks : ks + ms ≤ 7302250)
    (hn : 0 < jh_n hS) (RS : jx_rp sd true (bS, G) hS H) (S : va_S (jlw_A s) s.heap H locs) (hEv : jx_Ev Y' d mc ms true sd [jv_r ck 0] hS (fun r h' => r = none ∧ h' = hF))
    (k : ∀ (H1 : Heap) (locs1 : List Loc), jx_rp sd true (bS, G) hF H1 → (∀ q : Nat, q < bS → H1[q]? = H[q]?) → va_S (jlw_A s) s.heap H1 locs1 → W p l e room_1 s m #[Value.ref b] below meth c H1 locs1 (kc + mc) (ks + ms) Z (F0 m (pc + 3) lr rest)) :
    W p l e room_1 s m #[Value.ref b] below meth c H locs kc ks Z (F0 m pc lr (.ref bS :: rest)) := by
  obtain ⟨⟨hx, hb, hr, hml, hown, htl, hX, hbl, hlk, hgv⟩, hK, hE, hts⟩ := C
  obtain ⟨f1, f2, f3, f4⟩ := jx_ck_facts hf.1
  have hw : ∀ w ∈ jx_mw Y', w.before #[Value.ref b] s = true := fun w hw => hts w (hf.2 w (List.mem_append_left _ hw))
  have hini : (Cond.initialized Y'.1.cls).before #[Value.ref b] s = true := hw _ (List.mem_append_left _ (List.mem_cons_of_mem _ List.mem_cons_self))
  have hvas : jx_vs sd (jh_n hS) [jv_r ck 0] := ⟨Or.inr (Or.inr (Or.inr ⟨0, hn, hq0⟩)), trivial⟩
  have hM := jx_met (g := (bS, G)) (l := l) hf hvas hL2.1 hEv
  have hcv : jx_cv sd (bS, G) (jv_r ck 0) = .ref bS := jx_cv_of (bS, G) hq0
  have hbH : bS ≤ H.size := by rw [RS.2.2.1 rfl]; exact Nat.le_add_right _ _
  have hPm : ∀ U : State, U.heap = H → s.WarmedH U.vm → jx_Pq sd true (bS, G) [jv_r ck 0] hS (Value.ref bS :: []).toArray U := fun U hU hW =>
    ⟨by rw [List.map_cons, hcv]; rfl, by rw [hU]; exact RS, va_K.moved hW.alike hK, jlw_ex bS (fun q z => Nat.le_trans hbS z.1) (jx_ex_moved hE S hU hW), by rw [hU]; exact hbH⟩
  have hin : (Cond.instanceMethod Y'.1).before #[Value.ref b] s = true := hw _ (List.mem_append_right _ (by rw [hkd]; exact List.mem_cons_self))
  have hG := jx_goodIn hf
  rw [hrn] at hM hG
  have hroom : (jx_rm d mc ms).frames + 1 ≤ room_1.frames ∧ 8 + (Y'.2.2.1 + 11) + (jx_rm d mc ms).locals ≤ room_1.locals := ⟨by show d + 1 ≤ 2048; omega, by show 8 + (Y'.2.2.1 + 11) + (60 * d + 60) ≤ 84000; omega⟩
  have hrun := va_runI (p := p) (l := l) (e := e) (As := []) (b := bS) (rest := rest) (cells := kc) (slots := ks) (below := below) (locs := locs) (meth := meth) (H := H) ⟨hx, hb, hml, hown, hts⟩ hM ⟨callB_of Y'.2.2.2.2.1 hts hG rfl rfl rfl hini (htl _ hlink) f3 hroom, f4.mp hkd, hin⟩
    ⟨jx_blind, hPm⟩ (g := F0 m pc lr (.ref bS :: rest)) rfl hal2 hlr rfl (by show 2 * 0 + _ ≤ 8; omega) hd ⟨hkc, hks⟩
  intro T0 hT X
  obtain ⟨v, st₀, t, T', Lc, h0, X', hL, e1, e2, ⟨⟨r, h', hv, hq, hRp, hrv, hn0, htr⟩, hz, hk⟩, stp⟩ := hrun T0 hT X
  obtain ⟨rfl, rfl⟩ := hq
  cases hv
  rw [h0] at hz hk
  obtain ⟨t2, a1, b1⟩ := k T'.heap (locs ++ Lc) (by rw [e1]; exact hRp) (fun q hq => by rw [e1]; exact hk q (Nat.lt_of_lt_of_le hq hbH) (fun y => absurd y.1 (Nat.not_le.mpr hq)))
    ⟨Nat.le_trans S.1 (by rw [e1]; exact hz), fun q h1 h2 => by rw [e1, hk q (Nat.lt_of_lt_of_le h1 S.1) (fun y => h2 (Nat.le_trans hbS y.1))]; exact S.2.1 q h1 h2, fun q hq => by
      rcases List.mem_append.mp hq with h | h
      · exact S.2.2 q h
      · exact Nat.le_trans hbS (hL q h).1⟩ T' rfl X'
  exact ⟨t2, stp t2 a1, b1⟩
end JL2
def jlw_tg : List Nat := [204, 267, 290, 303, 326, 359, 392, 415, 448, 491, 514, 537, 570, 593, 606, 629, 652, 675, 708, 721, 734, 767, 790, 823, 846, 879, 912, 971, 994, 1037, 1070, 1093, 1136, 1159, 1182, 1215, 1284, 1307, 1330]
theorem jlw_of : ∀ j, j < 39 → (#[171, 234, 257, 270, 293, 326, 359, 382, 415, 458, 481, 504, 537, 560, 573, 596, 619, 642, 675, 688, 701, 734, 757, 790, 813, 846, 879, 938, 961, 1004, 1037, 1060, 1103, 1126, 1149, 1182, 1251, 1274, 1297] : Array Int)[j]? = some ((jlw_tg.getD j 0 : Int) - 33) := by decide +kernel
theorem jlw_body {p : Program} {l : Launch} {e : Env} {s : State} {m : MethodId} {below : List Frame} {meth : Method} {c : Code} {b L : Nat} {xs : Nat → Int32} {G : jlw_G} {H : Heap} {locs : List Loc} {lr : Array Slot} {Z : State → Prop} {hc hm : jx_H} {x : Int32} (j : Nat) (hj : j < 39) (C : jlw_C p s m meth c b L xs G) (hRel : jz_Rel hc hm) (S : jlw_S s G hc hm H locs) (hl : lv_has lr 4 [(0, .ref b), (1, .ref s.heap.size), (2, .ref (s.heap.size + 128)), (3, .int x)]) (hin : vp_in (x + 1) L ∧ vp_in (x + 2) L ∧ vp_in (x + 3) L ∧ vp_in (x + 4) L ∧ vp_in (x + 5) L) (k : ∀ (hc' hm' : jx_H) (H1 : Heap) (locs1 : List Loc), jz_Rel hc' hm' → jlw_S s G hc' hm' H1 locs1 → W p l e room_1 s m #[Value.ref b] below meth c H1 locs1 600000 7302250 Z (F0 m 1353 lr [])) : W p l e room_1 s m #[Value.ref b] below meth c H locs 600000 7302250 Z (F0 m (jlw_tg.getD j 0) lr []) :=
  match j, hj with
  | 0, _ => jlw_c0 C hRel S hl hin k
  | 1, _ => jlw_c1 C hRel S hl hin k
  | 2, _ => jlw_c2 C hRel S hl hin k
  | 3, _ => jlw_c3 C hRel S hl hin k
  | 4, _ => jlw_c4 C hRel S hl hin k
  | 5, _ => jlw_c5 C hRel S hl hin k
  | 6, _ => jlw_c6 C hRel S hl hin k
  | 7, _ => jlw_c7 C hRel S hl hin k
  | 8, _ => jlw_c8 C hRel S hl hin k
  | 9, _ => jlw_c9 C hRel S hl hin k
  | 10, _ => jlw_c10 C hRel S hl hin k
  | 11, _ => jlw_c11 C hRel S hl hin k
  | 12, _ => jlw_c12 C hRel S hl hin k
  | 13, _ => jlw_c13 C hRel S hl hin k
  | 14, _ => jlw_c14 C hRel S hl hin k
  | 15, _ => jlw_c15 C hRel S hl hin k
  | 16, _ => jlw_c16 C hRel S hl hin k
  | 17, _ => jlw_c17 C hRel S hl hin k
  | 18, _ => jlw_c18 C hRel S hl hin k
  | 19, _ => jlw_c19 C hRel S hl hin k
  | 20, _ => jlw_c20 C hRel S hl hin k
  | 21, _ => jlw_c21 C hRel S hl hin k
  | 22, _ => jlw_c22 C hRel S hl hin k
  | 23, _ => jlw_c23 C hRel S hl hin k
  | 24, _ => jlw_c24 C hRel S hl hin k
  | 25, _ => jlw_c25 C hRel S hl hin k
  | 26, _ => jlw_c26 C hRel S hl hin k
  | 27, _ => jlw_c27 C hRel S hl hin k
  | 28, _ => jlw_c28 C hRel S hl hin k
  | 29, _ => jlw_c29 C hRel S hl hin k
  | 30, _ => jlw_c30 C hRel S hl hin k
  | 31, _ => jlw_c31 C hRel S hl hin k
  | 32, _ => jlw_c32 C hRel S hl hin k
  | 33, _ => jlw_c33 C hRel S hl hin k
  | 34, _ => jlw_c34 C hRel S hl hin k
  | 35, _ => jlw_c35 C hRel S hl hin k
  | 36, _ => jlw_c36 C hRel S hl hin k
  | 37, _ => jlw_c37 C hRel S hl hin k
  | 38, _ => jlw_c38 C hRel S hl hin k
  | n + 39, h => absurd h (by omega)
theorem jlw_lim {i L : Nat} (hL : L ≤ 3072) (hi : i ≤ 10000) (h : ¬ Int32.ofNat L - 6 < nI i) : i + 6 ≤ L := by
  have e1 : (Int32.ofNat L).toInt = (L : Int) := nI_toInt (n := L) (by omega)
  have e2 : (Int32.ofNat L - 6).toInt = (L : Int) - 6 := by rw [Int32.toInt_sub, e1, show (6 : Int32).toInt = 6 from rfl]; exact jn_sm (by omega) (by omega)
  have e3 : (nI i).toInt = (i : Int) := nI_toInt (by omega)
  have h2 : ¬ (Int32.ofNat L - 6).toInt < (nI i).toInt := fun z => h (Int32.lt_iff_toInt_lt.mpr z)
  rw [e2, e3] at h2
  omega
set_option maxHeartbeats 4000000 in
set_option maxRecDepth 100000 in
/-- THE LAW'S LOOP -/
theorem jlw_loop {p : Program} {l : Launch} {e : Env} {s : State} {m : MethodId} {below : List Frame} {meth : Method} {c : Code} {b L : Nat} {xs : Nat → Int32} {G : jlw_G} (hL : L ≤ 3072) (C : jlw_C p s m meth c b L xs G) :
    ∀ (n i : Nat), L + 6 ≤ i + n → i ≤ L → ∀ (hc hm : jx_H) (H : Heap) (locs : List Loc) (lr : Array Slot), jz_Rel hc hm → jlw_S s G hc hm H locs → lv_has lr 4 [(0, .ref b), (1, .ref s.heap.size), (2, .ref (s.heap.size + 128)), (3, .int (nI i))] →
      W p l e room_1 s m #[Value.ref b] below meth c H locs 600000 7302250 (lw_Z below #[Value.ref b] s) (F0 m 18 lr []) := by
  obtain ⟨hx, hb, hr, hml, hown, htl, hX, hbl, hlk, hgv⟩ := id C.1
  have hbA : ¬ jlw_A s b := Nat.not_le.mpr hbl
  intro n
  induction n with
  | zero => intro i h1 h2; exact absurd h1 (by omega)
  | succ n ih =>
    intro i h1 h2 hc hm H locs lr hRel S hl
    refine lv_iload_n hx hb jd_18 rfl (lv_at hl 3 rfl) ?_
    refine lv_aload_n hx hb jd_19 rfl (lv_at hl 0 rfl) ?_
    refine va_slen hx hb hX hbl hbA S.2.2.1 jd_20 ?_
    refine lv_bipush (v := 6) hx hb jd_21 (by decide) ?_
    refine lv_isub hx hb jd_23 ?_
    refine lv_icmp_gt (tgt := 1359) hx hb jd_24 (by decide) (fun _ => ?_) (fun c24 => ?_)
    · refine lv_iconst (v := 1) hx hb jd_1359 (by decide) ?_
      refine va_forget (fun q hq => S.2.2.1.2.2 q hq) ?_
      exact lw_ret hx hb hr hlk jd_1360
    · have h6 := jlw_lim hL (by omega) c24
      have hin : vp_in (nI i + 1) L ∧ vp_in (nI i + 2) L ∧ vp_in (nI i + 3) L ∧ vp_in (nI i + 4) L ∧ vp_in (nI i + 5) L := by
        refine ⟨?_, ?_, ?_, ?_, ?_⟩
        · rw [show nI i + 1 = nI (i + 1) from jn_add rfl (jn_c 1)]; exact vp_in_nI (by omega) (by omega)
        · rw [show nI i + 2 = nI (i + 2) from jn_add rfl (jn_c 2)]; exact vp_in_nI (by omega) (by omega)
        · rw [show nI i + 3 = nI (i + 3) from jn_add rfl (jn_c 3)]; exact vp_in_nI (by omega) (by omega)
        · rw [show nI i + 4 = nI (i + 4) from jn_add rfl (jn_c 4)]; exact vp_in_nI (by omega) (by omega)
        · rw [show nI i + 5 = nI (i + 5) from jn_add rfl (jn_c 5)]; exact vp_in_nI (by omega) (by omega)
      have k : ∀ (hc' hm' : jx_H) (H1 : Heap) (locs1 : List Loc), jz_Rel hc' hm' → jlw_S s G hc' hm' H1 locs1 → W p l e room_1 s m #[Value.ref b] below meth c H1 locs1 600000 7302250 (lw_Z below #[Value.ref b] s) (F0 m 1353 lr []) := by
        intro hc' hm' H1 locs1 hRel' S'
        refine lv_iinc (v := nI (i + 6)) (lv' := [(3, .int (nI (i + 6))), (0, .ref b), (1, .ref s.heap.size), (2, .ref (s.heap.size + 128))]) hx hb jd_1353 hl (k := 3) rfl (jn_add rfl (jn_c 6)) (by decide) rfl (fun ls hl => ?_)
        refine lv_goto (tgt := 18) hx hb jd_1356 (by decide) ?_
        exact ih (i + 6) (by omega) h6 hc' hm' H1 locs1 ls hRel' S' (lv_sub hl [1, 2, 3, 0] rfl)
      refine lv_aload_n hx hb jd_27 rfl (lv_at hl 0 rfl) ?_
      refine lv_iload_n hx hb jd_28 rfl (lv_at hl 3 rfl) ?_
      refine va_sld hx hb hX hbl hbA S.2.2.1 (vp_in_nI (by omega) (by omega)) jd_29 ?_
      refine lv_bipush (v := 63) hx hb jd_30 (by decide) ?_
      refine lv_iand hx hb jd_32 ?_
      generalize xs (nI i).toNatClampNeg &&& 63 = y
      by_cases h : y.toInt < 0 ∨ 38 < y.toInt
      · exact lv_tableOut (tgt := 1353) hx hb jd_33 h (by decide) (k hc hm H locs hRel S)
      · obtain ⟨j, hj⟩ : ∃ j : Nat, y.toInt = (j : Int) := ⟨y.toInt.toNat, by omega⟩
        have hj39 : j < 39 := by omega
        refine lv_tableIn (off := (jlw_tg.getD j 0 : Int) - 33) (tgt := jlw_tg.getD j 0) hx hb jd_33 (fun z => h (Or.inl z)) (fun z => h (Or.inr z)) ?_ (by omega) (jlw_body j hj39 C hRel S hl hin k)
        rw [hj, show ((j : Int) - 0).toNat = j by omega]
        exact jlw_of j hj39
set_option maxHeartbeats 4000000 in
set_option maxRecDepth 100000 in
/-- THE LAW, from its entry: the two objects, then the loop -/
theorem jlw_start {p : Program} {e : Env} {s : State} {m : MethodId} {below : List Frame} {meth : Method} {c : Code} (l : Launch) {b L : Nat} {xs : Nat → Int32} (hL : L ≤ 3072) (C0 : lw_At p s m meth c b L xs) : W p l e room_1 s m #[Value.ref b] below meth c s.heap [] 0 0 (lw_Z below #[Value.ref b] s) (entryFrame m ([Value.ref b] : List Value).toArray 4) := by
  obtain ⟨hx, hb, hr, hml, hown, htl, hX, hbl, hlk, hgv⟩ := id C0
  obtain ⟨G, C⟩ := jlw_env C0
  have hS : va_S (jlw_A s) s.heap s.heap [] := va_S.rf
  have hl := lv_entry ([.ref b]) (n := 4) (Nat.le_of_ble_eq_true rfl)
  rw [lg_entry_eq]
  generalize (lg_sl ([.ref b]) ++ List.replicate (4 - (lg_sl ([.ref b])).length) Slot.unset).toArray = ls at hl ⊢
  have hl : lv_has ls 4 [(0, .ref b)] := hl
  refine jlw_new (ci := 10) (sd := 0) C jd_0 (jx_pw_in (q := (1, 21)) rfl) (jx_pw_in (q := (1, 1)) rfl) (by decide) rfl (Nat.le_of_ble_eq_true rfl) (Nat.le_of_ble_eq_true rfl) hS (fun H1 R1 z1 o1 S1 => ?_)
  refine lv_dup hx hb jd_3 rfl ?_
  refine jlw_init (Y' := jm_JV_init) (ck := 10) (sd := 0) (d := 12) (mc := 127) (ms := 16696) (hS := jka_0) (hF := jka_303) C hl.1 jd_4 (jx_pw_in (q := (1, 23)) rfl) jm_JV_init_f rfl rfl rfl (by decide) ⟨Nat.le_of_ble_eq_true rfl, Nat.le_of_ble_eq_true rfl⟩ (by decide) (Nat.le_of_ble_eq_true rfl) rfl (Nat.le_refl _) (Nat.le_of_ble_eq_true rfl) (Nat.le_of_ble_eq_true rfl) (Nat.le_of_ble_eq_true rfl) R1 S1 (ek_JV_init_1 (d := 0) ⟨rfl, rfl⟩) (fun H2 locs2 R2 o2 S2 => ?_)
  have z2 : H2.size = s.heap.size + 128 := by have := R2.2.2.1 rfl; rw [jka_n, jlw_l0] at this; exact this
  have R2 := jx_rp_f R2 jka_n jka_vc
  refine lv_astore_n (lv' := [(1, .ref s.heap.size), (0, .ref b)]) hx hb jd_7 rfl hl (by decide) rfl (fun ls hl => ?_)
  refine jlw_new (ci := 11) (sd := 1) C jd_8 (jx_pw_in (q := (7, 8)) rfl) (jx_pw_in (q := (1, 16)) rfl) (by decide) rfl (Nat.le_of_ble_eq_true rfl) (Nat.le_of_ble_eq_true rfl) S2 (fun H3 R3 z3 o3 S3 => ?_)
  refine lv_dup hx hb jd_11 rfl ?_
  refine jlw_init (Y' := jm_MD_init) (ck := 11) (sd := 1) (d := 12) (mc := 59) (ms := 22356) (hS := jma_0) (hF := jma_142) C hl.1 jd_12 (jx_pw_in (q := (7, 10)) rfl) jm_MD_init_f rfl rfl rfl (by decide) ⟨Nat.le_of_ble_eq_true rfl, Nat.le_of_ble_eq_true rfl⟩ (by decide) (Nat.le_of_ble_eq_true rfl) rfl (by rw [z2]; exact Nat.le_add_right _ _) (Nat.le_of_ble_eq_true rfl) (Nat.le_of_ble_eq_true rfl) (Nat.le_of_ble_eq_true rfl) R3 S3 (ek_MD_init_1 (d := 0) ⟨rfl, rfl⟩) (fun H4 locs4 R4 o4 S4 => ?_)
  have z4 : H4.size = H2.size + 60 := by have := R4.2.2.1 rfl; rw [jma_n, jlw_l1] at this; exact this
  have R4 := jx_rp_f R4 jma_n jma_vc
  have hk : ∀ q : Nat, q < H2.size → H4[q]? = H2[q]? := fun q hq => (o4 q hq).trans (o3 q hq)
  have RC : jx_rp 0 false (s.heap.size, G) jka_303 H4 := jlw_keep R2 (fun z => (by cases z)) (fun q h1 h2 => hk q (by
    have h2 : q < s.heap.size + jh_n jka_303 := h2
    rw [jka_n, jlw_l0] at h2
    omega))
  rw [z2] at R4 z4 ⊢
  refine lv_astore_n (lv' := [(2, .ref (s.heap.size + 128)), (1, .ref s.heap.size), (0, .ref b)]) hx hb jd_15 rfl hl (by decide) rfl (fun ls hl => ?_)
  refine lv_iconst (v := 0) hx hb jd_16 (by decide) ?_
  refine lv_istore_n (lv' := [(3, .int 0), (2, .ref (s.heap.size + 128)), (1, .ref s.heap.size), (0, .ref b)]) hx hb jd_17 rfl hl (by decide) rfl (fun ls hl => ?_)
  refine W.widen (k := 600000) (n := 7302250) (Nat.le_of_ble_eq_true rfl) (Nat.le_of_ble_eq_true rfl) ?_
  exact jlw_loop hL C (L + 6) 0 (by omega) (Nat.zero_le _) jka_303 jma_142 H4 locs4 ls jz_Rel0 ⟨RC, R4, S4, by rw [z4]; omega⟩ (lv_sub hl [3, 2, 1, 0] rfl)
