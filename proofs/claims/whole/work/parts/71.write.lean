def jw_wc (hc : jx_H) (n : Nat) (x1 x2 x3 x4 x5 : Int32) : jx_H := ju_I (ju_I (ju_I (ju_I (ju_I hc 52 0 (upd (jh_I hc 52 0) n x1)) 53 0 (upd (jh_I hc 53 0) n x2)) 54 0 (upd (jh_I hc 54 0) n x3)) 55 0 (upd (jh_I hc 55 0) n x4)) 4 0 (upd (jh_I hc 4 0) 4 x5)
def jw_wm (hm : jx_H) (n : Nat) (y1 y2 y3 y4 y5 y6 : Int32) : jx_H := ju_I (ju_I (ju_I (ju_I (ju_I (ju_I hm 113 0 (upd (jh_I hm 113 0) n y1)) 114 0 (upd (jh_I hm 114 0) n y2)) 115 0 (upd (jh_I hm 115 0) n y3)) 116 0 (upd (jh_I hm 116 0) n y4)) 117 0 (upd (jh_I hm 117 0) n y5)) 11 0 (upd (jh_I hm 11 0) 80 y6)
theorem jz_Rel_wr {hc hm : jx_H} {b r n q m e t : Nat} {x3 y4 x5 y6 : Int32} (hC : jz_C hc hm b r) (hTa : jz_Ta hc hm) (hFa : jz_Fa hc hm) (hLy : jz_Ly hc hm) (hTi : jz_Ti hc hm) (hBo : jz_Bo hc hm b r) (hAc : jz_Ac hc hm b) (hWo : jz_Wo hc) (e4 : ∀ j, j < n → jz_Le1 hc hm b j)
    (hn : n < 30) (hq : q ≤ 400) (hm1 : m < jz_nm hm b) (he : 1 ≤ e) (he2 : e ≤ 31) (h3 : x3 = nI t) (h4 : y4 = nI t) (h5 : x5 = nI (n + 1)) (h6 : y6 = nI (n + 1)) : jz_Rel (jw_wc hc n (nI q) (nI (m * 32 + e)) x3 (-1) x5) (jw_wm hm n (nI q) (nI m) (nI e) y4 (-1) y6) := by
  subst h3 h4 h5 h6
  obtain ⟨c1, c2, c3, c4, c5, c6, c7, c8⟩ := hC
  obtain ⟨s, t1, t2, t3⟩ := hTa
  obtain ⟨f1, f2⟩ := hFa
  obtain ⟨s2, l1, l2, l3, l4⟩ := hLy
  obtain ⟨t', i1, i2, i3⟩ := hTi
  obtain ⟨n2, u, a1, a2, a3, a4, a5, σ, g1, g2, g3, g4, g5, g6⟩ := hAc
  refine ⟨b, r, ⟨⟨c1.1, c1.2.1, c1.2.2.1, c1.2.2.2⟩, c2, c3, c4, c5, c6, c7, c8⟩, ⟨s, t1, t2, t3⟩, ⟨f1, f2⟩, ⟨s2, l1, l2, l3, l4⟩, ⟨t', i1, i2, i3⟩, ⟨n + 1, by omega, rfl, rfl, fun i hi => ?_⟩, hBo, ⟨n2, u, a1, a2, a3, a4, a5, σ, g1, g2, g3, g4, g5, fun j' hj => jz_act_t (by unfold jw_wm; rw [jN_u _ _ _ _ rfl, jN_u _ _ _ _ rfl, jN_u _ _ _ _ rfl, jN_u _ _ _ _ rfl, jN_u _ _ _ _ rfl, jN_u _ _ _ _ rfl]) (g6 j' hj)⟩, hWo⟩
  by_cases z : i = n
  · subst z
    exact ⟨q, m, e, t, jg_us _ _ _, jg_us _ _ _, hq, jg_us _ _ _, hm1, jg_us _ _ _, he, he2, jg_us _ _ _, jg_us _ _ _, jg_us _ _ _, (jg_us (jh_I hc 55 0) i (-1)).trans (jg_us (jh_I hm 117 0) i (-1)).symm, Or.inl (jg_us (jh_I hm 117 0) i (-1))⟩
  · obtain ⟨q', m', e', tt, h1, h2, h3, h4, h5, h6, h7, h8, h9, h10, h11, h12, h13⟩ := e4 i (by omega)
    exact ⟨q', m', e', tt, (jg_un z).trans h1, (jg_un z).trans h2, h3, (jg_un z).trans h4, h5, (jg_un z).trans h6, h7, h8, (jg_un z).trans h9, (jg_un z).trans h10, (jg_un z).trans h11, ((jg_un z : upd (jh_I hc 55 0) n (-1) i = _).trans h12).trans (jg_un z : upd (jh_I hm 117 0) n (-1) i = _).symm, by
      rw [show jh_I (jw_wm hm n (nI q) (nI m) (nI e) (nI t) (-1) (nI (n + 1))) 117 0 i = jh_I hm 117 0 i from (jg_un z : upd (jh_I hm 117 0) n (-1) i = _)]
      exact h13⟩
