/-! the steps of the loop -/
set_option maxHeartbeats 1000000 in
theorem st_shaft {p : Program} {l : Launch} {e : Env} {s : State} {m : MethodId} {below : List Frame} {meth : Method} {c : Code} {b L : Nat} {xs : Nat → Int32} {E : EnvT} {tq : Nat} {H : Heap} {locs : List Loc} {cells slots : Nat} {Q : State → Prop} {ls : Array Slot} {z : ZT} {i : Nat} (C : LC p s m c b L xs E tq) (hl : lv_has ls 4 (lvL b z i)) (hi : i + 5 ≤ L) (hr : Rel z) (ha : At E s z H locs) (hc : cells + 12 ≤ 600000 ∧ slots + 44 ≤ 7302250)
    (kont : ∀ (z2 : ZT) (H1 : Heap) (locs1 : List Loc), z2.g0 = z.g0 → z2.m0 = z.m0 → Rel z2 → At E s z2 H1 locs1 → W p l e room_1 s m #[Value.ref b] below meth c H1 locs1 (cells + 12) (slots + 44) Q (F0 m 954 ls [])) : W p l e room_1 s m #[Value.ref b] below meth c H locs cells slots Q (F0 m 160 ls []) := by
  have hP := ha.hP
  have hD := ha.hD
  have hS := ha.hS
  have hls : ls.size = 4 := hl.1
  have hs1 := hr.hM.1.1
  have hs4 := hr.hM.1.2.1
  have hr8 := hr.hM.1.2.2
  have hU := hr.hM.2.1
  have hV := hr.hM.2.2.1
  generalize hx1 : xs (i + 1) = x1
  generalize hx2 : xs (i + 2) = x2
  generalize hx3 : xs (i + 3) = x3
  by_cases hc1 : ((0 ≤ x1 ∧ x1 ≤ nI (z.sh - 1)) ∧ (5 ≤ x2 ∧ x2 ≤ 200) ∧ (5 ≤ x3 ∧ x3 ≤ 200)) ∧ z.sh < 4
  · obtain ⟨⟨h1, h2, h3⟩, h4⟩ := hc1
    obtain ⟨y, hy, rfl⟩ := inS hs1 (by omega) h1
    obtain ⟨av, ha1, ha2, rfl⟩ := inR (A := 5) (B := 200) rfl rfl h2
    obtain ⟨bv, hb1, hb2, rfl⟩ := inR (A := 5) (B := 200) rfl rfl h3
    refine a8_shaft C hl hi hS hx1 hx2 hx3 ?_
    refine l8_shaft_yes (z := z) y av bv C hs1 h4 hr8 hy ha1 ha2 hb1 hb2 hU hV hP hD hS hls ⟨by omega, by omega⟩ (fun ra1 qa1 qb1 ra2 qa2 qb2 H1 locs1  hP1 hD1 hS1 => ?_)
    refine lv_pop C.hx C.hb dL_law_179 rfl ?_
    refine a9_shaft C hl hi hS1 hx1 hx2 hx3 ?_
    refine l9_shaft_yes (z := z) y av bv C hs1 h4 hy ha1 ha2 hb1 hb2 hU hV (Nat.le_of_ble_eq_true rfl) (vaP_perm (perm_N _ _ _ _) hP1) (vaD_perm (perm_N _ _ _ _) hD1) hS1 hls ⟨by omega, by omega⟩ (fun  H2 locs2  hP2 hD2 hS2 => ?_)
    rw [pool2] at hP2 hD2
    refine finNI (cells := cells) (slots := slots) C rfl dL_law_199 dL_law_200 (by decide) (by omega) (by omega) ?_
    exact kont (ZT.s_ps (ZT.s_uy (ZT.s_ux (ZT.s_Te (ZT.s_ld (ZT.s_fg (ZT.s_fo (ZT.s_V (ZT.s_U (ZT.s_sh z (z.sh + 1)) ((updN z.U z.sh (tA (z.U y * av) (z.V y * bv))))) ((updN z.V z.sh (tB (z.U y * av) (z.V y * bv))))) (va_up z.fo z.sh (some ra1))) (va_up z.fg (z.sh - 1) (some ra2))) (0)) (updN z.Te z.sh bv)) (lN (tA (z.U y * av) (z.V y * bv)))) (lN (tB (z.U y * av) (z.V y * bv)))) (PO ra1 qa1 qb1 z.sh (updN z.U z.sh (tA (z.U y * av) (z.V y * bv))) (updN z.V z.sh (tB (z.U y * av) (z.V y * bv))) :: PG ra2 qa2 qb2 z.sh bv (updN z.U z.sh (tA (z.U y * av) (z.V y * bv))) (updN z.V z.sh (tB (z.U y * av) (z.V y * bv))) :: z.ps)) H2 locs2 rfl rfl (Rel.of (z := (ZT.s_ps (ZT.s_uy (ZT.s_ux (ZT.s_Te (ZT.s_ld (ZT.s_fg (ZT.s_fo (ZT.s_V (ZT.s_U (ZT.s_sh z (z.sh + 1)) ((updN z.U z.sh (tA (z.U y * av) (z.V y * bv))))) ((updN z.V z.sh (tB (z.U y * av) (z.V y * bv))))) (va_up z.fo z.sh (some ra1))) (va_up z.fg (z.sh - 1) (some ra2))) (0)) (updN z.Te z.sh bv)) (lN (tA (z.U y * av) (z.V y * bv)))) (lN (tB (z.U y * av) (z.V y * bv)))) (PO ra1 qa1 qb1 z.sh (updN z.U z.sh (tA (z.U y * av) (z.V y * bv))) (updN z.V z.sh (tB (z.U y * av) (z.V y * bv))) :: PG ra2 qa2 qb2 z.sh bv (updN z.U z.sh (tA (z.U y * av) (z.V y * bv))) (updN z.V z.sh (tB (z.U y * av) (z.V y * bv))) :: z.ps))) (ModM_shaft hr.hM h4 hy ha1 ha2 hb1 hb2) (PsOk_shaft hs1 (fun q hq => (hr.hM.2.2.2.2 q hq).1) hr.hps) hr.hL hr.hk hr.hti hr.htb hr.hR hr.hlt hr.hla hr.hfs hr.hfd hr.hSz hr.hst hr.hsh hr.hIt hr.hIb hr.hn hr.hth (Or.inl rfl) hr.hFw hr.hCv hr.hMn hr.hmid hr.hwr hr.hlf hr.hNm) (At.of (vaP_perm (perm_swap3 _ _ _) hP2) (vaD_perm (perm_swap3 _ _ _) hD2) hS2)
  · have hno := nor hc1 (c := 4 ≤ z.sh) (by omega)
    refine a8_shaft C hl hi hS hx1 hx2 hx3 ?_
    refine l8_shaft_no (z := z) x1 x2 x3 C hs1 hs4 hno hP hD hS hls ⟨by omega, by omega⟩ (fun  H1 locs1  hP1 hD1 hS1 => ?_)
    refine lv_pop C.hx C.hb dL_law_179 rfl ?_
    refine a9_shaft C hl hi hS1 hx1 hx2 hx3 ?_
    refine l9_shaft_no (z := z) x1 x2 x3 C hs1 hs4 hno (Nat.le_of_ble_eq_true rfl) (vaP_perm (perm_swap3 _ _ _) hP1) (vaD_perm (perm_swap3 _ _ _) hD1) hS1 hls ⟨by omega, by omega⟩ (fun  H2 locs2  hP2 hD2 hS2 => ?_)
    refine finNI (cells := cells) (slots := slots) C rfl dL_law_199 dL_law_200 (by decide) (by omega) (by omega) ?_
    exact kont z H2 locs2 rfl rfl hr (At.of (vaP_perm (perm_swap3 _ _ _) hP2) (vaD_perm (perm_swap3 _ _ _) hD2) hS2)
set_option maxHeartbeats 1000000 in
theorem st_ring {p : Program} {l : Launch} {e : Env} {s : State} {m : MethodId} {below : List Frame} {meth : Method} {c : Code} {b L : Nat} {xs : Nat → Int32} {E : EnvT} {tq : Nat} {H : Heap} {locs : List Loc} {cells slots : Nat} {Q : State → Prop} {ls : Array Slot} {z : ZT} {i : Nat} (C : LC p s m c b L xs E tq) (hl : lv_has ls 4 (lvL b z i)) (hi : i + 5 ≤ L) (hr : Rel z) (ha : At E s z H locs) (hc : cells + 12 ≤ 600000 ∧ slots + 44 ≤ 7302250)
    (kont : ∀ (z2 : ZT) (H1 : Heap) (locs1 : List Loc), z2.g0 = z.g0 → z2.m0 = z.m0 → Rel z2 → At E s z2 H1 locs1 → W p l e room_1 s m #[Value.ref b] below meth c H1 locs1 (cells + 12) (slots + 44) Q (F0 m 954 ls [])) : W p l e room_1 s m #[Value.ref b] below meth c H locs cells slots Q (F0 m 203 ls []) := by
  have hP := ha.hP
  have hD := ha.hD
  have hS := ha.hS
  have hls : ls.size = 4 := hl.1
  have hs1 := hr.hM.1.1
  have hs4 := hr.hM.1.2.1
  have hr8 := hr.hM.1.2.2
  have hU := hr.hM.2.1
  have hV := hr.hM.2.2.1
  generalize hx1 : xs (i + 1) = x1
  generalize hx2 : xs (i + 2) = x2
  generalize hx3 : xs (i + 3) = x3
  generalize hx4 : xs (i + 4) = x4
  by_cases hc1 : ((0 ≤ x1 ∧ x1 ≤ nI (z.sh - 1)) ∧ (3 ≤ x2 ∧ x2 ≤ 30) ∧ (2 ≤ x4 ∧ x4 ≤ 100) ∧ (1 ≤ x3 ∧ x3 ≤ x4 - 1)) ∧ z.rg < 8
  · obtain ⟨⟨h1, h2, h3, h4⟩, h8⟩ := hc1
    obtain ⟨y, hy, rfl⟩ := inS hs1 (by omega) h1
    obtain ⟨bl, hb1, hb2, rfl⟩ := inR (A := 3) (B := 30) rfl rfl h2
    obtain ⟨qq, hq1, hq2, rfl⟩ := inR (A := 2) (B := 100) rfl rfl h3
    rw [nI_s1 (by omega)] at h4
    obtain ⟨pp, hp1, hp2, rfl⟩ := inR (A := 1) (B := qq - 1) rfl (nI_toInt (by omega)) h4
    refine a8_ring C hl hi hS hx1 hx2 hx3 hx4 ?_
    refine l8_ring_yes (z := z) y bl pp qq C hs1 hs4 h8 hy hb1 hb2 hp1 (by omega) hq2 hU hV hP hD hS hls ⟨by omega, by omega⟩ (fun ra1 qa1 qb1 ra2 qa2 qb2 ra3 qa3 qb3 ra4 qa4 qb4 H1 locs1  hP1 hD1 hS1 => ?_)
    refine lv_pop C.hx C.hb dL_law_227 rfl ?_
    refine a9_ring C hl hi hS1 hx1 hx2 hx3 hx4 ?_
    refine l9_ring_yes (z := z) y bl pp qq C hs1 hs4 h8 hy hb1 hb2 hp1 (by omega) hq2 (Nat.le_of_ble_eq_true rfl) (vaP_perm (perm_N _ _ _ _) hP1) (vaD_perm (perm_N _ _ _ _) hD1) hS1 hls ⟨by omega, by omega⟩ (fun  H2 locs2  hP2 hD2 hS2 => ?_)
    rw [pool4] at hP2 hD2
    refine finNI (cells := cells) (slots := slots) C rfl dL_law_252 dL_law_253 (by decide) (by omega) (by omega) ?_
    exact kont (ZT.s_ps (ZT.s_Gr (ZT.s_Sm (ZT.s_Ba (ZT.s_Si (ZT.s_ld (ZT.s_fr (ZT.s_rg z (z.rg + 1)) (va_up (va_up (va_up (va_up z.fr (z.rg * 4) (some ra1)) (z.rg * 4 + 1) (some ra2)) (z.rg * 4 + 2) (some ra3)) (z.rg * 4 + 3) (some ra4))) (0)) (updN z.Si z.rg y)) (updN z.Ba z.rg bl)) (updN z.Sm z.rg pp)) (updN z.Gr z.rg qq)) (PQ0 ra1 qa1 qb1 y bl pp qq z.U z.V :: PQ1 ra2 qa2 qb2 y bl pp qq z.U z.V :: PQ2 ra3 qa3 qb3 y pp qq z.U z.V :: PQ3 ra4 qa4 qb4 y pp qq z.U z.V :: z.ps)) H2 locs2 rfl rfl (Rel.of (z := (ZT.s_ps (ZT.s_Gr (ZT.s_Sm (ZT.s_Ba (ZT.s_Si (ZT.s_ld (ZT.s_fr (ZT.s_rg z (z.rg + 1)) (va_up (va_up (va_up (va_up z.fr (z.rg * 4) (some ra1)) (z.rg * 4 + 1) (some ra2)) (z.rg * 4 + 2) (some ra3)) (z.rg * 4 + 3) (some ra4))) (0)) (updN z.Si z.rg y)) (updN z.Ba z.rg bl)) (updN z.Sm z.rg pp)) (updN z.Gr z.rg qq)) (PQ0 ra1 qa1 qb1 y bl pp qq z.U z.V :: PQ1 ra2 qa2 qb2 y bl pp qq z.U z.V :: PQ2 ra3 qa3 qb3 y pp qq z.U z.V :: PQ3 ra4 qa4 qb4 y pp qq z.U z.V :: z.ps))) (ModM_ring hr.hM h8 hy hb1 hb2 hp1 (by omega) hq2) (PsOk_ring hr.hps) hr.hL hr.hk hr.hti hr.htb hr.hR hr.hlt hr.hla hr.hfs hr.hfd hr.hSz hr.hst hr.hsh hr.hIt hr.hIb hr.hn hr.hth (Or.inl rfl) hr.hFw hr.hCv hr.hMn hr.hmid hr.hwr hr.hlf hr.hNm) (At.of (vaP_perm (perm_swap3 _ _ _) hP2) (vaD_perm (perm_swap3 _ _ _) hD2) hS2)
  · have hno := nor hc1 (c := 8 ≤ z.rg) (by omega)
    refine a8_ring C hl hi hS hx1 hx2 hx3 hx4 ?_
    refine l8_ring_no (z := z) x1 x2 x3 x4 C hs1 hs4 hr8 hno hP hD hS hls ⟨by omega, by omega⟩ (fun  H1 locs1  hP1 hD1 hS1 => ?_)
    refine lv_pop C.hx C.hb dL_law_227 rfl ?_
    refine a9_ring C hl hi hS1 hx1 hx2 hx3 hx4 ?_
    refine l9_ring_no (z := z) x1 x2 x3 x4 C hs1 hs4 hr8 (hno.imp (fun h h9 => h ((ring_iff (b := 0)).mpr h9)) id) (Nat.le_of_ble_eq_true rfl) (vaP_perm (perm_swap3 _ _ _) hP1) (vaD_perm (perm_swap3 _ _ _) hD1) hS1 hls ⟨by omega, by omega⟩ (fun  H2 locs2  hP2 hD2 hS2 => ?_)
    refine finNI (cells := cells) (slots := slots) C rfl dL_law_252 dL_law_253 (by decide) (by omega) (by omega) ?_
    exact kont z H2 locs2 rfl rfl hr (At.of (vaP_perm (perm_swap3 _ _ _) hP2) (vaD_perm (perm_swap3 _ _ _) hD2) hS2)
set_option maxHeartbeats 1000000 in
theorem st_speed {p : Program} {l : Launch} {e : Env} {s : State} {m : MethodId} {below : List Frame} {meth : Method} {c : Code} {b L : Nat} {xs : Nat → Int32} {E : EnvT} {tq : Nat} {H : Heap} {locs : List Loc} {cells slots : Nat} {Q : State → Prop} {ls : Array Slot} {z : ZT} {i : Nat} (C : LC p s m c b L xs E tq) (hl : lv_has ls 4 (lvL b z i)) (hi : i + 5 ≤ L) (hr : Rel z) (ha : At E s z H locs) (hc : cells + 12 ≤ 600000 ∧ slots + 44 ≤ 7302250)
    (kont : ∀ (z2 : ZT) (H1 : Heap) (locs1 : List Loc), z2.g0 = z.g0 → z2.m0 = z.m0 → Rel z2 → At E s z2 H1 locs1 → W p l e room_1 s m #[Value.ref b] below meth c H1 locs1 (cells + 12) (slots + 44) Q (F0 m 954 ls [])) : W p l e room_1 s m #[Value.ref b] below meth c H locs cells slots Q (F0 m 256 ls []) := by
  have hP := ha.hP
  have hD := ha.hD
  have hS := ha.hS
  have hls : ls.size = 4 := hl.1
  have hs1 := hr.hM.1.1
  have hs4 := hr.hM.1.2.1
  have hr8 := hr.hM.1.2.2
  have hU := hr.hM.2.1
  have hV := hr.hM.2.2.1
  generalize hx1 : xs (i + 1) = x1
  generalize hx2 : xs (i + 2) = x2
  refine a8_speed C hl hi hS hx1 hx2 ?_
  refine l8_speed (z := z) x1 x2 C hs1 hs4 hP   hls ⟨by omega, by omega⟩ ?_
  refine lv_pop2_2 C.hx C.hb dL_law_270 rfl ?_
  refine a9_speed C hl hi hS hx1 hx2 ?_
  refine l9_speed (z := z) x1 x2 C hs1 hs4 (Nat.le_of_ble_eq_true rfl) (vaP_perm (perm_swap3 _ _ _) hP) hls ⟨by omega, by omega⟩ ?_
  refine finNL (cells := cells) (slots := slots) C rfl dL_law_285 dL_law_286 (by decide) (by omega) (by omega) ?_
  exact kont z H locs rfl rfl hr (At.of hP hD hS)
set_option maxHeartbeats 1000000 in
theorem st_parts {p : Program} {l : Launch} {e : Env} {s : State} {m : MethodId} {below : List Frame} {meth : Method} {c : Code} {b L : Nat} {xs : Nat → Int32} {E : EnvT} {tq : Nat} {H : Heap} {locs : List Loc} {cells slots : Nat} {Q : State → Prop} {ls : Array Slot} {z : ZT} {i : Nat} (C : LC p s m c b L xs E tq) (hl : lv_has ls 4 (lvL b z i)) (hi : i + 5 ≤ L) (hr : Rel z) (ha : At E s z H locs) (hc : cells + 12 ≤ 600000 ∧ slots + 44 ≤ 7302250)
    (kont : ∀ (z2 : ZT) (H1 : Heap) (locs1 : List Loc), z2.g0 = z.g0 → z2.m0 = z.m0 → Rel z2 → At E s z2 H1 locs1 → W p l e room_1 s m #[Value.ref b] below meth c H1 locs1 (cells + 12) (slots + 44) Q (F0 m 954 ls [])) : W p l e room_1 s m #[Value.ref b] below meth c H locs cells slots Q (F0 m 289 ls []) := by
  have hP := ha.hP
  have hD := ha.hD
  have hS := ha.hS
  have hls : ls.size = 4 := hl.1
  have hs1 := hr.hM.1.1
  have hs4 := hr.hM.1.2.1
  have hr8 := hr.hM.1.2.2
  have hU := hr.hM.2.1
  have hV := hr.hM.2.2.1
  refine a8_parts C hl hi hS  ?_
  refine l8_parts (z := z)  C hs1 hP   hls ⟨by omega, by omega⟩ ?_
  refine lv_pop C.hx C.hb dL_law_293 rfl ?_
  refine a9_parts C hl hi hS  ?_
  refine l9_parts (z := z)  C hs1 (Nat.le_of_ble_eq_true rfl) (vaP_perm (perm_swap3 _ _ _) hP) hls ⟨by omega, by omega⟩ ?_
  refine finNI (cells := cells) (slots := slots) C rfl dL_law_298 dL_law_299 (by decide) (by omega) (by omega) ?_
  exact kont z H locs rfl rfl hr (At.of hP hD hS)
set_option maxHeartbeats 1000000 in
theorem st_part {p : Program} {l : Launch} {e : Env} {s : State} {m : MethodId} {below : List Frame} {meth : Method} {c : Code} {b L : Nat} {xs : Nat → Int32} {E : EnvT} {tq : Nat} {H : Heap} {locs : List Loc} {cells slots : Nat} {Q : State → Prop} {ls : Array Slot} {z : ZT} {i : Nat} (C : LC p s m c b L xs E tq) (hl : lv_has ls 4 (lvL b z i)) (hi : i + 5 ≤ L) (hr : Rel z) (ha : At E s z H locs) (hc : cells + 12 ≤ 600000 ∧ slots + 44 ≤ 7302250)
    (kont : ∀ (z2 : ZT) (H1 : Heap) (locs1 : List Loc), z2.g0 = z.g0 → z2.m0 = z.m0 → Rel z2 → At E s z2 H1 locs1 → W p l e room_1 s m #[Value.ref b] below meth c H1 locs1 (cells + 12) (slots + 44) Q (F0 m 954 ls [])) : W p l e room_1 s m #[Value.ref b] below meth c H locs cells slots Q (F0 m 302 ls []) := by
  have hP := ha.hP
  have hD := ha.hD
  have hS := ha.hS
  have hls : ls.size = 4 := hl.1
  have hs1 := hr.hM.1.1
  have hs4 := hr.hM.1.2.1
  have hr8 := hr.hM.1.2.2
  have hU := hr.hM.2.1
  have hV := hr.hM.2.2.1
  generalize hx1 : xs (i + 1) = x1
  generalize hx2 : xs (i + 2) = x2
  by_cases hc1 : 0 ≤ x1 ∧ x1 ≤ nI (2 * z.sh - 1 + 4 * z.rg - 1)
  · obtain ⟨k, hk, rfl⟩ := inS (n := 2 * z.sh - 1 + 4 * z.rg) (by omega) (by omega) hc1
    obtain ⟨r, hr9, hf, a1, a2, a3, a4⟩ := PsOk_at hs1 hs4 hr8 hr.hps hk
    have t := tnN_in z.sh k
    refine a8_part C hl hi hS hx1 hx2 ?_
    refine l8_part_yes (z := z) r (nI k) x2 C hs1 hs4 hr8 hf hP (pool_r (vaP_r (vaP_r hP)) hr9)  hls ⟨by omega, by omega⟩ ?_
    refine lv_pop C.hx C.hb dL_law_316 rfl ?_
    refine a9_part C hl hi hS hx1 hx2 ?_
    refine l9_part_yes (z := z) k x2 C hs1 hs4 hr8 hk (Nat.le_of_ble_eq_true rfl) (vaP_perm (perm_swap3 _ _ _) hP) hls ⟨by omega, by omega⟩ ?_
    refine finNI (cells := cells) (slots := slots) C rfl dL_law_331 dL_law_332 (by decide) (by omega) (by omega) ?_
    exact kont z H locs rfl rfl hr (At.of hP hD hS)
  · have hf := fFind_none (fo := z.fo) (fg := z.fg) (fr := z.fr) hs1 hs4 hr8 hc1
    refine a8_part C hl hi hS hx1 hx2 ?_
    refine l8_part_no (z := z) x1 x2 C hs1 hs4 hr8 hf hP   hls ⟨by omega, by omega⟩ ?_
    refine lv_pop C.hx C.hb dL_law_316 rfl ?_
    refine a9_part C hl hi hS hx1 hx2 ?_
    refine l9_part_no (z := z) x1 x2 C hs1 hs4 hr8 hc1 (Nat.le_of_ble_eq_true rfl) (vaP_perm (perm_swap3 _ _ _) hP) hls ⟨by omega, by omega⟩ ?_
    refine finNI (cells := cells) (slots := slots) C rfl dL_law_331 dL_law_332 (by decide) (by omega) (by omega) ?_
    exact kont z H locs rfl rfl hr (At.of hP hD hS)
set_option maxHeartbeats 1000000 in
theorem st_tone {p : Program} {l : Launch} {e : Env} {s : State} {m : MethodId} {below : List Frame} {meth : Method} {c : Code} {b L : Nat} {xs : Nat → Int32} {E : EnvT} {tq : Nat} {H : Heap} {locs : List Loc} {cells slots : Nat} {Q : State → Prop} {ls : Array Slot} {z : ZT} {i : Nat} (C : LC p s m c b L xs E tq) (hl : lv_has ls 4 (lvL b z i)) (hi : i + 5 ≤ L) (hr : Rel z) (ha : At E s z H locs) (hc : cells + 12 ≤ 600000 ∧ slots + 44 ≤ 7302250)
    (kont : ∀ (z2 : ZT) (H1 : Heap) (locs1 : List Loc), z2.g0 = z.g0 → z2.m0 = z.m0 → Rel z2 → At E s z2 H1 locs1 → W p l e room_1 s m #[Value.ref b] below meth c H1 locs1 (cells + 12) (slots + 44) Q (F0 m 954 ls [])) : W p l e room_1 s m #[Value.ref b] below meth c H locs cells slots Q (F0 m 335 ls []) := by
  have hP := ha.hP
  have hD := ha.hD
  have hS := ha.hS
  have hls : ls.size = 4 := hl.1
  have hs1 := hr.hM.1.1
  have hs4 := hr.hM.1.2.1
  have hr8 := hr.hM.1.2.2
  have hU := hr.hM.2.1
  have hV := hr.hM.2.2.1
  generalize hx1 : xs (i + 1) = x1
  generalize hx2 : xs (i + 2) = x2
  generalize hx3 : xs (i + 3) = x3
  by_cases hc1 : 0 ≤ x1 ∧ x1 ≤ nI (2 * z.sh - 1 + 4 * z.rg - 1)
  · obtain ⟨k, hk, rfl⟩ := inS (n := 2 * z.sh - 1 + 4 * z.rg) (by omega) (by omega) hc1
    obtain ⟨r, hr9, hf, a1, a2, a3, a4⟩ := PsOk_at hs1 hs4 hr8 hr.hps hk
    have t := tnN_in z.sh k
    refine a8_tone C hl hi hS hx1 hx2 hx3 ?_
    refine l8_tone_yes (z := z) r (nI k) x2 x3 C hs1 hs4 hr8 hf (by omega) (by omega) hP (pool_r (vaP_r (vaP_r hP)) hr9)  hls ⟨by omega, by omega⟩ ?_
    refine lv_pop2_2 C.hx C.hb dL_law_354 rfl ?_
    refine a9_tone C hl hi hS hx1 hx2 hx3 ?_
    refine l9_tone_yes (z := z) k x2 x3 C hr.hM hk (Nat.le_of_ble_eq_true rfl) (vaP_perm (perm_swap3 _ _ _) hP) (vaD_perm (perm_swap3 _ _ _) hD) hS hls ⟨by omega, by omega⟩ (fun ab1 be1 H2 locs2  hP2 hD2 hS2 => ?_)
    refine finNL (cells := cells) (slots := slots) C rfl dL_law_374 dL_law_375 (by decide) (by omega) (by omega) ?_
    exact kont (ZT.s_uy (ZT.s_ux z (ab1)) (be1)) H2 locs2 rfl rfl (Rel.of (z := (ZT.s_uy (ZT.s_ux z (ab1)) (be1))) hr.hM hr.hps hr.hL hr.hk hr.hti hr.htb hr.hR hr.hlt hr.hla hr.hfs hr.hfd hr.hSz hr.hst hr.hsh hr.hIt hr.hIb hr.hn hr.hth hr.hhp hr.hFw hr.hCv hr.hMn hr.hmid hr.hwr hr.hlf hr.hNm) (At.of (vaP_perm (perm_swap3 _ _ _) hP2) (vaD_perm (perm_swap3 _ _ _) hD2) hS2)
  · have hf := fFind_none (fo := z.fo) (fg := z.fg) (fr := z.fr) hs1 hs4 hr8 hc1
    refine a8_tone C hl hi hS hx1 hx2 hx3 ?_
    refine l8_tone_no (z := z) x1 x2 x3 C hs1 hs4 hr8 hf hP   hls ⟨by omega, by omega⟩ ?_
    refine lv_pop2_2 C.hx C.hb dL_law_354 rfl ?_
    refine a9_tone C hl hi hS hx1 hx2 hx3 ?_
    refine l9_tone_no (z := z) x1 x2 x3 C hs1 hs4 hr8 hc1 (Nat.le_of_ble_eq_true rfl) (vaP_perm (perm_swap3 _ _ _) hP) (vaD_perm (perm_swap3 _ _ _) hD) hS hls ⟨by omega, by omega⟩ (fun  H2 locs2  hP2 hD2 hS2 => ?_)
    refine finNL (cells := cells) (slots := slots) C rfl dL_law_374 dL_law_375 (by decide) (by omega) (by omega) ?_
    exact kont z H2 locs2 rfl rfl hr (At.of (vaP_perm (perm_swap3 _ _ _) hP2) (vaD_perm (perm_swap3 _ _ _) hD2) hS2)
set_option maxHeartbeats 1000000 in
theorem st_explains {p : Program} {l : Launch} {e : Env} {s : State} {m : MethodId} {below : List Frame} {meth : Method} {c : Code} {b L : Nat} {xs : Nat → Int32} {E : EnvT} {tq : Nat} {H : Heap} {locs : List Loc} {cells slots : Nat} {Q : State → Prop} {ls : Array Slot} {z : ZT} {i : Nat} (C : LC p s m c b L xs E tq) (hl : lv_has ls 4 (lvL b z i)) (hi : i + 5 ≤ L) (hr : Rel z) (ha : At E s z H locs) (hc : cells + 12 ≤ 600000 ∧ slots + 44 ≤ 7302250)
    (kont : ∀ (z2 : ZT) (H1 : Heap) (locs1 : List Loc), z2.g0 = z.g0 → z2.m0 = z.m0 → Rel z2 → At E s z2 H1 locs1 → W p l e room_1 s m #[Value.ref b] below meth c H1 locs1 (cells + 12) (slots + 44) Q (F0 m 954 ls [])) : W p l e room_1 s m #[Value.ref b] below meth c H locs cells slots Q (F0 m 737 ls []) := by
  have hP := ha.hP
  have hD := ha.hD
  have hS := ha.hS
  have hls : ls.size = 4 := hl.1
  have hs1 := hr.hM.1.1
  have hs4 := hr.hM.1.2.1
  have hr8 := hr.hM.1.2.2
  have hU := hr.hM.2.1
  have hV := hr.hM.2.2.1
  generalize hx1 : xs (i + 1) = x1
  by_cases hc1 : 0 ≤ x1 ∧ x1 ≤ nI (2 * z.sh - 1 + 4 * z.rg - 1)
  · obtain ⟨k, hk, rfl⟩ := inS (n := 2 * z.sh - 1 + 4 * z.rg) (by omega) (by omega) hc1
    obtain ⟨r, hr9, hf, a1, a2, a3, a4⟩ := PsOk_at hs1 hs4 hr8 hr.hps hk
    have t := tnN_in z.sh k
    refine a8_explains C hl hi hS hx1 ?_
    refine l8_explains_yes (z := z) r (nI k) C hs1 hs4 hr8 hf hr.hn hr.hth (by omega) hP (pool_r (vaP_r (vaP_r hP)) hr9)  hls ⟨by omega, by omega⟩ ?_
    refine lv_pop C.hx C.hb dL_law_746 rfl ?_
    refine a9_explains C hl hi hS hx1 ?_
    refine l9_explains_yes (z := z) k C hr.hM hk hr.hn hr.hth (Nat.le_of_ble_eq_true rfl) (vaP_perm (perm_swap3 _ _ _) hP) (vaD_perm (perm_swap3 _ _ _) hD) hS hls ⟨by omega, by omega⟩ (fun ab1 be1 H2 locs2  hP2 hD2 hS2 => ?_)
    refine finNI (cells := cells) (slots := slots) C rfl dL_law_756 dL_law_757 (by decide) (by omega) (by omega) ?_
    exact kont (ZT.s_uy (ZT.s_ux z (ab1)) (be1)) H2 locs2 rfl rfl (Rel.of (z := (ZT.s_uy (ZT.s_ux z (ab1)) (be1))) hr.hM hr.hps hr.hL hr.hk hr.hti hr.htb hr.hR hr.hlt hr.hla hr.hfs hr.hfd hr.hSz hr.hst hr.hsh hr.hIt hr.hIb hr.hn hr.hth hr.hhp hr.hFw hr.hCv hr.hMn hr.hmid hr.hwr hr.hlf hr.hNm) (At.of (vaP_perm (perm_swap3 _ _ _) hP2) (vaD_perm (perm_swap3 _ _ _) hD2) hS2)
  · have hf := fFind_none (fo := z.fo) (fg := z.fg) (fr := z.fr) hs1 hs4 hr8 hc1
    refine a8_explains C hl hi hS hx1 ?_
    refine l8_explains_no (z := z) x1 C hs1 hs4 hr8 hf hP   hls ⟨by omega, by omega⟩ ?_
    refine lv_pop C.hx C.hb dL_law_746 rfl ?_
    refine a9_explains C hl hi hS hx1 ?_
    refine l9_explains_no (z := z) x1 C hs1 hs4 hr8 hc1 (Nat.le_of_ble_eq_true rfl) (vaP_perm (perm_swap3 _ _ _) hP) (vaD_perm (perm_swap3 _ _ _) hD) hS hls ⟨by omega, by omega⟩ (fun  H2 locs2  hP2 hD2 hS2 => ?_)
    refine finNI (cells := cells) (slots := slots) C rfl dL_law_756 dL_law_757 (by decide) (by omega) (by omega) ?_
    exact kont z H2 locs2 rfl rfl hr (At.of (vaP_perm (perm_swap3 _ _ _) hP2) (vaD_perm (perm_swap3 _ _ _) hD2) hS2)
set_option maxHeartbeats 1000000 in
theorem st_named {p : Program} {l : Launch} {e : Env} {s : State} {m : MethodId} {below : List Frame} {meth : Method} {c : Code} {b L : Nat} {xs : Nat → Int32} {E : EnvT} {tq : Nat} {H : Heap} {locs : List Loc} {cells slots : Nat} {Q : State → Prop} {ls : Array Slot} {z : ZT} {i : Nat} (C : LC p s m c b L xs E tq) (hl : lv_has ls 4 (lvL b z i)) (hi : i + 5 ≤ L) (hr : Rel z) (ha : At E s z H locs) (hc : cells + 12 ≤ 600000 ∧ slots + 44 ≤ 7302250)
    (kont : ∀ (z2 : ZT) (H1 : Heap) (locs1 : List Loc), z2.g0 = z.g0 → z2.m0 = z.m0 → Rel z2 → At E s z2 H1 locs1 → W p l e room_1 s m #[Value.ref b] below meth c H1 locs1 (cells + 12) (slots + 44) Q (F0 m 954 ls [])) : W p l e room_1 s m #[Value.ref b] below meth c H locs cells slots Q (F0 m 760 ls []) := by
  have hP := ha.hP
  have hD := ha.hD
  have hS := ha.hS
  have hls : ls.size = 4 := hl.1
  have hs1 := hr.hM.1.1
  have hs4 := hr.hM.1.2.1
  have hr8 := hr.hM.1.2.2
  have hU := hr.hM.2.1
  have hV := hr.hM.2.2.1
  generalize hx1 : xs (i + 1) = x1
  by_cases hc1 : 0 ≤ x1 ∧ x1 ≤ nI (2 * z.sh - 1 + 4 * z.rg - 1)
  · obtain ⟨k, hk, rfl⟩ := inS (n := 2 * z.sh - 1 + 4 * z.rg) (by omega) (by omega) hc1
    obtain ⟨r, hr9, hf, a1, a2, a3, a4⟩ := PsOk_at hs1 hs4 hr8 hr.hps hk
    have t := tnN_in z.sh k
    refine a8_named C hl hi hS hx1 ?_
    refine l8_named_yes (z := z) r (nI k) C hs1 hs4 hr8 hf hr.hn hr.hth (by omega) hP (pool_r (vaP_r (vaP_r hP)) hr9)  hls ⟨by omega, by omega⟩ ?_
    refine lv_pop C.hx C.hb dL_law_769 rfl ?_
    refine a9_named C hl hi hS hx1 ?_
    refine l9_named_yes (z := z) k C hr.hM hk hr.hn hr.hth (Nat.le_of_ble_eq_true rfl) (vaP_perm (perm_swap3 _ _ _) hP) (vaD_perm (perm_swap3 _ _ _) hD) hS hls ⟨by omega, by omega⟩ (fun ab1 be1 H2 locs2  hP2 hD2 hS2 => ?_)
    refine finNI (cells := cells) (slots := slots) C rfl dL_law_779 dL_law_780 (by decide) (by omega) (by omega) ?_
    exact kont (ZT.s_uy (ZT.s_ux z (ab1)) (be1)) H2 locs2 rfl rfl (Rel.of (z := (ZT.s_uy (ZT.s_ux z (ab1)) (be1))) hr.hM hr.hps hr.hL hr.hk hr.hti hr.htb hr.hR hr.hlt hr.hla hr.hfs hr.hfd hr.hSz hr.hst hr.hsh hr.hIt hr.hIb hr.hn hr.hth hr.hhp hr.hFw hr.hCv hr.hMn hr.hmid hr.hwr hr.hlf hr.hNm) (At.of (vaP_perm (perm_swap3 _ _ _) hP2) (vaD_perm (perm_swap3 _ _ _) hD2) hS2)
  · have hf := fFind_none (fo := z.fo) (fg := z.fg) (fr := z.fr) hs1 hs4 hr8 hc1
    refine a8_named C hl hi hS hx1 ?_
    refine l8_named_no (z := z) x1 C hs1 hs4 hr8 hf hP   hls ⟨by omega, by omega⟩ ?_
    refine lv_pop C.hx C.hb dL_law_769 rfl ?_
    refine a9_named C hl hi hS hx1 ?_
    refine l9_named_no (z := z) x1 C hs1 hs4 hr8 hc1 (Nat.le_of_ble_eq_true rfl) (vaP_perm (perm_swap3 _ _ _) hP) (vaD_perm (perm_swap3 _ _ _) hD) hS hls ⟨by omega, by omega⟩ (fun  H2 locs2  hP2 hD2 hS2 => ?_)
    refine finNI (cells := cells) (slots := slots) C rfl dL_law_779 dL_law_780 (by decide) (by omega) (by omega) ?_
    exact kont z H2 locs2 rfl rfl hr (At.of (vaP_perm (perm_swap3 _ _ _) hP2) (vaD_perm (perm_swap3 _ _ _) hD2) hS2)
set_option maxHeartbeats 1000000 in
theorem st_mark {p : Program} {l : Launch} {e : Env} {s : State} {m : MethodId} {below : List Frame} {meth : Method} {c : Code} {b L : Nat} {xs : Nat → Int32} {E : EnvT} {tq : Nat} {H : Heap} {locs : List Loc} {cells slots : Nat} {Q : State → Prop} {ls : Array Slot} {z : ZT} {i : Nat} (C : LC p s m c b L xs E tq) (hl : lv_has ls 4 (lvL b z i)) (hi : i + 5 ≤ L) (hr : Rel z) (ha : At E s z H locs) (hc : cells + 12 ≤ 600000 ∧ slots + 44 ≤ 7302250)
    (kont : ∀ (z2 : ZT) (H1 : Heap) (locs1 : List Loc), z2.g0 = z.g0 → z2.m0 = z.m0 → Rel z2 → At E s z2 H1 locs1 → W p l e room_1 s m #[Value.ref b] below meth c H1 locs1 (cells + 12) (slots + 44) Q (F0 m 954 ls [])) : W p l e room_1 s m #[Value.ref b] below meth c H locs cells slots Q (F0 m 378 ls []) := by
  have hP := ha.hP
  have hD := ha.hD
  have hS := ha.hS
  have hls : ls.size = 4 := hl.1
  have hs1 := hr.hM.1.1
  have hs4 := hr.hM.1.2.1
  have hr8 := hr.hM.1.2.2
  have hU := hr.hM.2.1
  have hV := hr.hM.2.2.1
  generalize hx1 : xs (i + 1) = x1
  obtain ⟨m1, m2, m3, m4⟩ := hr.mk120
  have hk6 := hr.hk
  have hlt := hr.hlt
  by_cases hc1 : ((0 ≤ x1 ∧ x1 ≤ 1000000) ∧ ¬ (0 < z.k ∧ x1 ≤ nI z.lt)) ∧ z.k < 60
  · obtain ⟨⟨h1, h2⟩, h4⟩ := hc1
    obtain ⟨x, -, hx9, rfl⟩ := inR (A := 0) (B := 1000000) rfl rfl h1
    have hx2 : 0 < z.k → z.lt < x := fun h0 => Nat.lt_of_not_le fun h9 => h2 ⟨h0, nI_le h9 (by omega)⟩
    refine a8_mark C hl hi hS hx1 ?_
    refine l8_mark_yes (z := z) x C hr.hR m1 m2 m3 hr.hlt hr.hk m4 hx9 hx2 h4 hP hD hS hls ⟨by omega, by omega⟩ (fun M2 H1 locs1 hM2 hP1 hD1 hS1 => ?_)
    refine lv_pop C.hx C.hb dL_law_387 rfl ?_
    refine a9_mark C hl hi hS1 hx1 ?_
    refine l9_mark_yes (z := z) x C hx9 (fun h0 => by rw [← hr.hla h0]; exact hx2 h0) h4 (Nat.le_of_ble_eq_true rfl) (vaP_perm (perm_swap3 _ _ _) hP1) (vaD_perm (perm_swap3 _ _ _) hD1) hS1 hls ⟨by omega, by omega⟩ (fun  H2 locs2  hP2 hD2 hS2 => ?_)
    refine finNI (cells := cells) (slots := slots) C rfl dL_law_397 dL_law_398 (by decide) (by omega) (by omega) ?_
    exact kont (ZT.s_Ti (ZT.s_M (ZT.s_lt (ZT.s_k (ZT.s_L z (adL z.L x)) (z.k + 1)) (x)) (M2)) (updN z.Ti z.k x)) H2 locs2 rfl rfl (Rel.of (z := (ZT.s_Ti (ZT.s_M (ZT.s_lt (ZT.s_k (ZT.s_L z (adL z.L x)) (z.k + 1)) (x)) (M2)) (updN z.Ti z.k x))) hr.hM hr.hps (mark_L hr.hL) (show z.k + 1 ≤ 60 from h4) (mark_ti hr.hti (fun h0 => by rw [← hr.hla h0]; exact hx2 h0)) (mark_tb hr.htb hx9) (hM2) (hx9) (fun _ => (updN_s z.Ti z.k x).symm) hr.hfs hr.hfd hr.hSz hr.hst hr.hsh hr.hIt hr.hIb hr.hn hr.hth hr.hhp hr.hFw hr.hCv hr.hMn hr.hmid hr.hwr hr.hlf hr.hNm) (At.of (vaP_perm (perm_swap3 _ _ _) hP2) (vaD_perm (perm_swap3 _ _ _) hD2) hS2)
  · have hno := nor hc1 (c := 60 ≤ z.k) (by omega)
    refine a8_mark C hl hi hS hx1 ?_
    refine l8_mark_no (z := z) x1 C hr.hR m1 m2 m3 hr.hlt hr.hk m4 hno hP hD hS hls ⟨by omega, by omega⟩ (fun  H1 locs1  hP1 hD1 hS1 => ?_)
    refine lv_pop C.hx C.hb dL_law_387 rfl ?_
    refine a9_mark C hl hi hS1 hx1 ?_
    refine l9_mark_no (z := z) x1 C hr.hk (hno.imp (fun h h9 => h ((mark_iff hr.hla).mpr h9)) id) (Nat.le_of_ble_eq_true rfl) (vaP_perm (perm_swap3 _ _ _) hP1) (vaD_perm (perm_swap3 _ _ _) hD1) hS1 hls ⟨by omega, by omega⟩ (fun  H2 locs2  hP2 hD2 hS2 => ?_)
    refine finNI (cells := cells) (slots := slots) C rfl dL_law_397 dL_law_398 (by decide) (by omega) (by omega) ?_
    exact kont z H2 locs2 rfl rfl hr (At.of (vaP_perm (perm_swap3 _ _ _) hP2) (vaD_perm (perm_swap3 _ _ _) hD2) hS2)
set_option maxHeartbeats 1000000 in
theorem st_unmark {p : Program} {l : Launch} {e : Env} {s : State} {m : MethodId} {below : List Frame} {meth : Method} {c : Code} {b L : Nat} {xs : Nat → Int32} {E : EnvT} {tq : Nat} {H : Heap} {locs : List Loc} {cells slots : Nat} {Q : State → Prop} {ls : Array Slot} {z : ZT} {i : Nat} (C : LC p s m c b L xs E tq) (hl : lv_has ls 4 (lvL b z i)) (hi : i + 5 ≤ L) (hr : Rel z) (ha : At E s z H locs) (hc : cells + 12 ≤ 600000 ∧ slots + 44 ≤ 7302250)
    (kont : ∀ (z2 : ZT) (H1 : Heap) (locs1 : List Loc), z2.g0 = z.g0 → z2.m0 = z.m0 → Rel z2 → At E s z2 H1 locs1 → W p l e room_1 s m #[Value.ref b] below meth c H1 locs1 (cells + 12) (slots + 44) Q (F0 m 954 ls [])) : W p l e room_1 s m #[Value.ref b] below meth c H locs cells slots Q (F0 m 401 ls []) := by
  have hP := ha.hP
  have hD := ha.hD
  have hS := ha.hS
  have hls : ls.size = 4 := hl.1
  have hs1 := hr.hM.1.1
  have hs4 := hr.hM.1.2.1
  have hr8 := hr.hM.1.2.2
  have hU := hr.hM.2.1
  have hV := hr.hM.2.2.1
  refine a8_unmark C hl hi hS  ?_
  refine l8_unmark (z := z)  C  hP hD hS hls ⟨by omega, by omega⟩ (fun  H1 locs1  hP1 hD1 hS1 => ?_)
  refine lv_pop C.hx C.hb dL_law_405 rfl ?_
  refine a9_unmark C hl hi hS1  ?_
  refine l9_unmark (z := z)  C  (Nat.le_of_ble_eq_true rfl) (vaP_perm (perm_swap3 _ _ _) hP1) (vaD_perm (perm_swap3 _ _ _) hD1) hS1 hls ⟨by omega, by omega⟩ (fun  H2 locs2  hP2 hD2 hS2 => ?_)
  refine finNI (cells := cells) (slots := slots) C rfl dL_law_410 dL_law_411 (by decide) (by omega) (by omega) ?_
  exact kont (ZT.s_k (ZT.s_L z ([])) (0)) H2 locs2 rfl rfl (Rel.of (z := (ZT.s_k (ZT.s_L z ([])) (0))) hr.hM hr.hps (rfl) (Nat.zero_le 60) (fun j (hj : j + 1 < 0) => absurd hj (Nat.not_lt_zero _)) (fun j (hj : j < 0) => absurd hj (Nat.not_lt_zero _)) (fun j (hj : j < 0) => absurd hj (Nat.not_lt_zero _)) hr.hlt (fun (h : 0 < 0) => absurd h (Nat.lt_irrefl 0)) hr.hfs hr.hfd hr.hSz hr.hst hr.hsh hr.hIt hr.hIb hr.hn hr.hth hr.hhp hr.hFw hr.hCv hr.hMn hr.hmid hr.hwr hr.hlf hr.hNm) (At.of (vaP_perm (perm_swap3 _ _ _) hP2) (vaD_perm (perm_swap3 _ _ _) hD2) hS2)
set_option maxHeartbeats 1000000 in
theorem st_turns {p : Program} {l : Launch} {e : Env} {s : State} {m : MethodId} {below : List Frame} {meth : Method} {c : Code} {b L : Nat} {xs : Nat → Int32} {E : EnvT} {tq : Nat} {H : Heap} {locs : List Loc} {cells slots : Nat} {Q : State → Prop} {ls : Array Slot} {z : ZT} {i : Nat} (C : LC p s m c b L xs E tq) (hl : lv_has ls 4 (lvL b z i)) (hi : i + 5 ≤ L) (hr : Rel z) (ha : At E s z H locs) (hc : cells + 12 ≤ 600000 ∧ slots + 44 ≤ 7302250)
    (kont : ∀ (z2 : ZT) (H1 : Heap) (locs1 : List Loc), z2.g0 = z.g0 → z2.m0 = z.m0 → Rel z2 → At E s z2 H1 locs1 → W p l e room_1 s m #[Value.ref b] below meth c H1 locs1 (cells + 12) (slots + 44) Q (F0 m 954 ls [])) : W p l e room_1 s m #[Value.ref b] below meth c H locs cells slots Q (F0 m 414 ls []) := by
  have hP := ha.hP
  have hD := ha.hD
  have hS := ha.hS
  have hls : ls.size = 4 := hl.1
  have hs1 := hr.hM.1.1
  have hs4 := hr.hM.1.2.1
  have hr8 := hr.hM.1.2.2
  have hU := hr.hM.2.1
  have hV := hr.hM.2.2.1
  refine a8_turns C hl hi hS  ?_
  refine l8_turns (z := z)  C  hP   hls ⟨by omega, by omega⟩ ?_
  refine lv_pop C.hx C.hb dL_law_418 rfl ?_
  refine a9_turns C hl hi hS  ?_
  refine l9_turns (z := z)  C hr.hk hr.hti hr.htb (Nat.le_of_ble_eq_true rfl) (vaP_perm (perm_swap3 _ _ _) hP) (vaD_perm (perm_swap3 _ _ _) hD) hS hls ⟨by omega, by omega⟩ (fun T2 H2 locs2 hT2 hP2 hD2 hS2 => ?_)
  refine finNI (cells := cells) (slots := slots) C rfl dL_law_423 dL_law_424 (by decide) (by omega) (by omega) ?_
  exact kont (ZT.s_Tn (ZT.s_md z (nI (adAll z.Ti z.k).length)) (T2)) H2 locs2 rfl rfl (Rel.of (z := (ZT.s_Tn (ZT.s_md z (nI (adAll z.Ti z.k).length)) (T2))) hr.hM hr.hps hr.hL hr.hk hr.hti hr.htb hr.hR hr.hlt hr.hla hr.hfs hr.hfd hr.hSz hr.hst hr.hsh hr.hIt hr.hIb hr.hn hr.hth hr.hhp hr.hFw hr.hCv hr.hMn hr.hmid hr.hwr hr.hlf hr.hNm) (At.of (vaP_perm (perm_swap3 _ _ _) hP2) (vaD_perm (perm_swap3 _ _ _) hD2) hS2)
set_option maxHeartbeats 1000000 in
theorem st_turn {p : Program} {l : Launch} {e : Env} {s : State} {m : MethodId} {below : List Frame} {meth : Method} {c : Code} {b L : Nat} {xs : Nat → Int32} {E : EnvT} {tq : Nat} {H : Heap} {locs : List Loc} {cells slots : Nat} {Q : State → Prop} {ls : Array Slot} {z : ZT} {i : Nat} (C : LC p s m c b L xs E tq) (hl : lv_has ls 4 (lvL b z i)) (hi : i + 5 ≤ L) (hr : Rel z) (ha : At E s z H locs) (hc : cells + 12 ≤ 600000 ∧ slots + 44 ≤ 7302250)
    (kont : ∀ (z2 : ZT) (H1 : Heap) (locs1 : List Loc), z2.g0 = z.g0 → z2.m0 = z.m0 → Rel z2 → At E s z2 H1 locs1 → W p l e room_1 s m #[Value.ref b] below meth c H1 locs1 (cells + 12) (slots + 44) Q (F0 m 954 ls [])) : W p l e room_1 s m #[Value.ref b] below meth c H locs cells slots Q (F0 m 427 ls []) := by
  have hP := ha.hP
  have hD := ha.hD
  have hS := ha.hS
  have hls : ls.size = 4 := hl.1
  have hs1 := hr.hM.1.1
  have hs4 := hr.hM.1.2.1
  have hr8 := hr.hM.1.2.2
  have hU := hr.hM.2.1
  have hV := hr.hM.2.2.1
  generalize hx1 : xs (i + 1) = x1
  obtain ⟨m1, m2, m3, m4⟩ := hr.mk120
  refine a8_turn C hl hi hS hx1 ?_
  refine l8_turn (z := z) x1 C m1 hP   hls ⟨by omega, by omega⟩ ?_
  refine lv_pop C.hx C.hb dL_law_436 rfl ?_
  refine a9_turn C hl hi hS hx1 ?_
  refine l9_turn (z := z) x1 C hr.hk hr.hti hr.htb (Nat.le_of_ble_eq_true rfl) (vaP_perm (perm_swap3 _ _ _) hP) (vaD_perm (perm_swap3 _ _ _) hD) hS hls ⟨by omega, by omega⟩ (fun T2 H2 locs2 hT2 hP2 hD2 hS2 => ?_)
  refine finNI (cells := cells) (slots := slots) C rfl dL_law_446 dL_law_447 (by decide) (by omega) (by omega) ?_
  exact kont (ZT.s_Tn (ZT.s_md z (nI (adAll z.Ti z.k).length)) (T2)) H2 locs2 rfl rfl (Rel.of (z := (ZT.s_Tn (ZT.s_md z (nI (adAll z.Ti z.k).length)) (T2))) hr.hM hr.hps hr.hL hr.hk hr.hti hr.htb hr.hR hr.hlt hr.hla hr.hfs hr.hfd hr.hSz hr.hst hr.hsh hr.hIt hr.hIb hr.hn hr.hth hr.hhp hr.hFw hr.hCv hr.hMn hr.hmid hr.hwr hr.hlf hr.hNm) (At.of (vaP_perm (perm_swap3 _ _ _) hP2) (vaD_perm (perm_swap3 _ _ _) hD2) hS2)
set_option maxHeartbeats 1000000 in
theorem st_sheet {p : Program} {l : Launch} {e : Env} {s : State} {m : MethodId} {below : List Frame} {meth : Method} {c : Code} {b L : Nat} {xs : Nat → Int32} {E : EnvT} {tq : Nat} {H : Heap} {locs : List Loc} {cells slots : Nat} {Q : State → Prop} {ls : Array Slot} {z : ZT} {i : Nat} (C : LC p s m c b L xs E tq) (hl : lv_has ls 4 (lvL b z i)) (hi : i + 5 ≤ L) (hr : Rel z) (ha : At E s z H locs) (hc : cells + 12 ≤ 600000 ∧ slots + 44 ≤ 7302250)
    (kont : ∀ (z2 : ZT) (H1 : Heap) (locs1 : List Loc), z2.g0 = z.g0 → z2.m0 = z.m0 → Rel z2 → At E s z2 H1 locs1 → W p l e room_1 s m #[Value.ref b] below meth c H1 locs1 (cells + 12) (slots + 44) Q (F0 m 954 ls [])) : W p l e room_1 s m #[Value.ref b] below meth c H locs cells slots Q (F0 m 450 ls []) := by
  have hP := ha.hP
  have hD := ha.hD
  have hS := ha.hS
  have hls : ls.size = 4 := hl.1
  have hs1 := hr.hM.1.1
  have hs4 := hr.hM.1.2.1
  have hr8 := hr.hM.1.2.2
  have hU := hr.hM.2.1
  have hV := hr.hM.2.2.1
  generalize hx1 : xs (i + 1) = x1
  generalize hx2 : xs (i + 2) = x2
  generalize hx3 : xs (i + 3) = x3
  generalize hx4 : xs (i + 4) = x4
  by_cases hc1 : ((0 ≤ x1 ∧ x1 ≤ 3) ∧ (0 ≤ x2 ∧ x2 ≤ 2) ∧ (¬ 200 < x3) ∧ (1 ≤ x4 ∧ x4 ≤ 1000)) ∧ ¬ x3 < 0
  · obtain ⟨⟨h1, h2, h3, h4⟩, h5⟩ := hc1
    obtain ⟨q, hq, rfl⟩ := inK h1
    obtain ⟨n2, hn2, rfl⟩ := nI_of2 (M := 200) (n := 200) rfl h5 (Int32.not_lt.mp h3)
    obtain ⟨s2, hs5, hs6, rfl⟩ := inR (A := 1) (B := 1000) rfl rfl h4
    refine a8_sheet C hl hi hS hx1 hx2 hx3 hx4 ?_
    refine l8_sheet_yes (z := z) q x2 n2 s2 C hq (hr.hfs q hq) h2 hn2 hs5 hs6 hP hD hS hls ⟨by omega, by omega⟩ (fun  H1 locs1  hP1 hD1 hS1 => ?_)
    refine lv_pop C.hx C.hb dL_law_474 rfl ?_
    refine a9_sheet C hl hi hS1 hx1 hx2 hx3 hx4 ?_
    refine l9_sheet_yes (z := z) q x2 n2 s2 C hq h2 hn2 hs5 hs6 (Nat.le_of_ble_eq_true rfl) (vaP_perm (perm_swap3 _ _ _) hP1) (vaD_perm (perm_swap3 _ _ _) hD1) hS1 hls ⟨by omega, by omega⟩ (fun  H2 locs2  hP2 hD2 hS2 => ?_)
    refine finNI (cells := cells) (slots := slots) C rfl dL_law_499 dL_law_500 (by decide) (by omega) (by omega) ?_
    exact kont (ZT.s_It (ZT.s_Sp (ZT.s_La (ZT.s_f (ZT.s_st (ZT.s_Sz (ZT.s_ln (ZT.s_hd z (va_up z.hd q 1)) (va_up z.ln q x2)) (updN z.Sz q n2)) (va_up z.st q s2)) (va_up z.f q (flF (fun _ => (0 : Int32)) 200 (z.f q)))) (upd z.La q x2)) (updN z.Sp q s2)) (rowS z.It q (fun _ => (0 : Int32)) 200)) H2 locs2 rfl rfl (Rel.of (z := (ZT.s_It (ZT.s_Sp (ZT.s_La (ZT.s_f (ZT.s_st (ZT.s_Sz (ZT.s_ln (ZT.s_hd z (va_up z.hd q 1)) (va_up z.ln q x2)) (updN z.Sz q n2)) (va_up z.st q s2)) (va_up z.f q (flF (fun _ => (0 : Int32)) 200 (z.f q)))) (upd z.La q x2)) (updN z.Sp q s2)) (rowS z.It q (fun _ => (0 : Int32)) 200))) hr.hM hr.hps hr.hL hr.hk hr.hti hr.htb hr.hR hr.hlt hr.hla hr.hfs hr.hfd (sh_Sz hr.hSz hn2) (sh_st hr.hst hs5 hs6) (sh_sh hr.hsh h2) (sh_It hr.hIt hq) (sh_Ib hr.hIb) hr.hn hr.hth hr.hhp hr.hFw hr.hCv hr.hMn hr.hmid hr.hwr hr.hlf hr.hNm) (At.of (vaP_perm (perm_swap3 _ _ _) hP2) (vaD_perm (perm_swap3 _ _ _) hD2) hS2)
  · have hno := nor hc1 (c := x3 < 0) Classical.not_not.mp
    refine a8_sheet C hl hi hS hx1 hx2 hx3 hx4 ?_
    refine l8_sheet_no (z := z) x1 x2 x3 x4 C hno hP hD hS hls ⟨by omega, by omega⟩ (fun  H1 locs1  hP1 hD1 hS1 => ?_)
    refine lv_pop C.hx C.hb dL_law_474 rfl ?_
    refine a9_sheet C hl hi hS1 hx1 hx2 hx3 hx4 ?_
    refine l9_sheet_no (z := z) x1 x2 x3 x4 C (hno.imp (fun h h9 => h (and_assoc.mp h9)) id) (Nat.le_of_ble_eq_true rfl) (vaP_perm (perm_swap3 _ _ _) hP1) (vaD_perm (perm_swap3 _ _ _) hD1) hS1 hls ⟨by omega, by omega⟩ (fun  H2 locs2  hP2 hD2 hS2 => ?_)
    refine finNI (cells := cells) (slots := slots) C rfl dL_law_499 dL_law_500 (by decide) (by omega) (by omega) ?_
    exact kont z H2 locs2 rfl rfl hr (At.of (vaP_perm (perm_swap3 _ _ _) hP2) (vaD_perm (perm_swap3 _ _ _) hD2) hS2)
set_option maxHeartbeats 1000000 in
theorem st_drop {p : Program} {l : Launch} {e : Env} {s : State} {m : MethodId} {below : List Frame} {meth : Method} {c : Code} {b L : Nat} {xs : Nat → Int32} {E : EnvT} {tq : Nat} {H : Heap} {locs : List Loc} {cells slots : Nat} {Q : State → Prop} {ls : Array Slot} {z : ZT} {i : Nat} (C : LC p s m c b L xs E tq) (hl : lv_has ls 4 (lvL b z i)) (hi : i + 5 ≤ L) (hr : Rel z) (ha : At E s z H locs) (hc : cells + 12 ≤ 600000 ∧ slots + 44 ≤ 7302250)
    (kont : ∀ (z2 : ZT) (H1 : Heap) (locs1 : List Loc), z2.g0 = z.g0 → z2.m0 = z.m0 → Rel z2 → At E s z2 H1 locs1 → W p l e room_1 s m #[Value.ref b] below meth c H1 locs1 (cells + 12) (slots + 44) Q (F0 m 954 ls [])) : W p l e room_1 s m #[Value.ref b] below meth c H locs cells slots Q (F0 m 503 ls []) := by
  have hP := ha.hP
  have hD := ha.hD
  have hS := ha.hS
  have hls : ls.size = 4 := hl.1
  have hs1 := hr.hM.1.1
  have hs4 := hr.hM.1.2.1
  have hr8 := hr.hM.1.2.2
  have hU := hr.hM.2.1
  have hV := hr.hM.2.2.1
  generalize hx1 : xs (i + 1) = x1
  by_cases hc1 : 0 ≤ x1 ∧ x1 ≤ 3
  · obtain ⟨q, hq, rfl⟩ := inK hc1
    refine a8_drop C hl hi hS hx1 ?_
    refine l8_drop_yes (z := z) q C hq (hr.hfs q hq) hP hD hS hls ⟨by omega, by omega⟩ (fun  H1 locs1  hP1 hD1 hS1 => ?_)
    refine lv_pop C.hx C.hb dL_law_512 rfl ?_
    refine a9_drop C hl hi hS1 hx1 ?_
    refine l9_drop_yes (z := z) q C hq (Nat.le_of_ble_eq_true rfl) (vaP_perm (perm_swap3 _ _ _) hP1) (vaD_perm (perm_swap3 _ _ _) hD1) hS1 hls ⟨by omega, by omega⟩ (fun  H2 locs2  hP2 hD2 hS2 => ?_)
    refine finNI (cells := cells) (slots := slots) C rfl dL_law_522 dL_law_523 (by decide) (by omega) (by omega) ?_
    exact kont (ZT.s_La (ZT.s_hd z (va_up z.hd q 0)) (if z.La q < 0 then z.La else upd z.La q (-1))) H2 locs2 rfl rfl (Rel.of (z := (ZT.s_La (ZT.s_hd z (va_up z.hd q 0)) (if z.La q < 0 then z.La else upd z.La q (-1)))) hr.hM hr.hps hr.hL hr.hk hr.hti hr.htb hr.hR hr.hlt hr.hla hr.hfs hr.hfd hr.hSz hr.hst (dr_sh hr.hsh) hr.hIt hr.hIb hr.hn hr.hth hr.hhp hr.hFw hr.hCv hr.hMn hr.hmid hr.hwr hr.hlf hr.hNm) (At.of (vaP_perm (perm_swap3 _ _ _) hP2) (vaD_perm (perm_swap3 _ _ _) hD2) hS2)
  · skip
    refine a8_drop C hl hi hS hx1 ?_
    refine l8_drop_no (z := z) x1 C hc1 hP hD hS hls ⟨by omega, by omega⟩ (fun  H1 locs1  hP1 hD1 hS1 => ?_)
    refine lv_pop C.hx C.hb dL_law_512 rfl ?_
    refine a9_drop C hl hi hS1 hx1 ?_
    refine l9_drop_no (z := z) x1 C hc1 (Nat.le_of_ble_eq_true rfl) (vaP_perm (perm_swap3 _ _ _) hP1) (vaD_perm (perm_swap3 _ _ _) hD1) hS1 hls ⟨by omega, by omega⟩ (fun  H2 locs2  hP2 hD2 hS2 => ?_)
    refine finNI (cells := cells) (slots := slots) C rfl dL_law_522 dL_law_523 (by decide) (by omega) (by omega) ?_
    exact kont z H2 locs2 rfl rfl hr (At.of (vaP_perm (perm_swap3 _ _ _) hP2) (vaD_perm (perm_swap3 _ _ _) hD2) hS2)
set_option maxHeartbeats 1000000 in
theorem st_item {p : Program} {l : Launch} {e : Env} {s : State} {m : MethodId} {below : List Frame} {meth : Method} {c : Code} {b L : Nat} {xs : Nat → Int32} {E : EnvT} {tq : Nat} {H : Heap} {locs : List Loc} {cells slots : Nat} {Q : State → Prop} {ls : Array Slot} {z : ZT} {i : Nat} (C : LC p s m c b L xs E tq) (hl : lv_has ls 4 (lvL b z i)) (hi : i + 5 ≤ L) (hr : Rel z) (ha : At E s z H locs) (hc : cells + 12 ≤ 600000 ∧ slots + 44 ≤ 7302250)
    (kont : ∀ (z2 : ZT) (H1 : Heap) (locs1 : List Loc), z2.g0 = z.g0 → z2.m0 = z.m0 → Rel z2 → At E s z2 H1 locs1 → W p l e room_1 s m #[Value.ref b] below meth c H1 locs1 (cells + 12) (slots + 44) Q (F0 m 954 ls [])) : W p l e room_1 s m #[Value.ref b] below meth c H locs cells slots Q (F0 m 526 ls []) := by
  have hP := ha.hP
  have hD := ha.hD
  have hS := ha.hS
  have hls : ls.size = 4 := hl.1
  have hs1 := hr.hM.1.1
  have hs4 := hr.hM.1.2.1
  have hr8 := hr.hM.1.2.2
  have hU := hr.hM.2.1
  have hV := hr.hM.2.2.1
  generalize hx1 : xs (i + 1) = x1
  generalize hx2 : xs (i + 2) = x2
  generalize hx3 : xs (i + 3) = x3
  generalize hx4 : xs (i + 4) = x4
  by_cases hc1 : (0 ≤ x1 ∧ x1 ≤ 3) ∧ (0 ≤ x2 ∧ x2 ≤ 2) ∧ ((-30000) ≤ x4 ∧ x4 ≤ 30000)
  · obtain ⟨h1, h2, h3⟩ := hc1
    obtain ⟨q, hq, rfl⟩ := inK h1
    have hz := hr.hSz q hq
    rcases hr.hsh q hq with ⟨a1, a2⟩ | ⟨a1, a2, a3, a4⟩
    · have hne : ¬ z.La q = x2 := fun h9 => absurd (h9 ▸ a2) (Int32.not_lt.mpr h2.1)
      refine a8_item C hl hi hS hx1 hx2 hx3 hx4 ?_
      refine l8_item_mid (z := z) q x2 x3 x4 C hq (hr.hfs q hq) h2 h3 (Or.inl a1) hP hD hS hls ⟨by omega, by omega⟩ (fun  H1 locs1  hP1 hD1 hS1 => ?_)
      refine lv_pop C.hx C.hb dL_law_550 rfl ?_
      refine a9_item C hl hi hS1 hx1 hx2 hx3 hx4 ?_
      refine l9_item_mid (z := z) q x2 x3 x4 C hq h2 h3 (Or.inl hne) (Nat.le_of_ble_eq_true rfl) (vaP_perm (perm_swap3 _ _ _) hP1) (vaD_perm (perm_swap3 _ _ _) hD1) hS1 hls ⟨by omega, by omega⟩ (fun  H2 locs2  hP2 hD2 hS2 => ?_)
      refine finNI (cells := cells) (slots := slots) C rfl dL_law_575 dL_law_576 (by decide) (by omega) (by omega) ?_
      exact kont z H2 locs2 rfl rfl hr (At.of (vaP_perm (perm_swap3 _ _ _) hP2) (vaD_perm (perm_swap3 _ _ _) hD2) hS2)
    · by_cases h5 : z.La q = x2 ∧ (0 ≤ x3 ∧ x3 ≤ nI (z.Sz q) - 1)
      · obtain ⟨j, hj, rfl⟩ := inL (by omega) h5.2
        refine a8_item C hl hi hS hx1 hx2 hx3 hx4 ?_
        refine l8_item_yes (z := z) q x2 j x4 C hq (hr.hfs q hq) h2 h3 a1 (a3.trans h5.1) hj hz hP hD hS hls ⟨by omega, by omega⟩ (fun  H1 locs1  hP1 hD1 hS1 => ?_)
        refine lv_pop C.hx C.hb dL_law_550 rfl ?_
        refine a9_item C hl hi hS1 hx1 hx2 hx3 hx4 ?_
        refine l9_item_yes (z := z) q x2 j x4 C hq h2 h3 h5.1 hj hz (Nat.le_of_ble_eq_true rfl) (vaP_perm (perm_swap3 _ _ _) hP1) (vaD_perm (perm_swap3 _ _ _) hD1) hS1 hls ⟨by omega, by omega⟩ (fun  H2 locs2  hP2 hD2 hS2 => ?_)
        refine finNI (cells := cells) (slots := slots) C rfl dL_law_575 dL_law_576 (by decide) (by omega) (by omega) ?_
        exact kont (ZT.s_It (ZT.s_f z (va_up z.f q (upd (z.f q) j (fPut (z.ln q) x4)))) (upd z.It (200 * q + j) (fPM x2 x4))) H2 locs2 rfl rfl (Rel.of (z := (ZT.s_It (ZT.s_f z (va_up z.f q (upd (z.f q) j (fPut (z.ln q) x4)))) (upd z.It (200 * q + j) (fPM x2 x4)))) hr.hM hr.hps hr.hL hr.hk hr.hti hr.htb hr.hR hr.hlt hr.hla hr.hfs hr.hfd hr.hSz hr.hst hr.hsh (it_It hr.hIt (by omega) (by rw [a3, h5.1]; exact fPut_fPM h2 h3.1 h3.2)) (it_Ib hr.hIb (fPM_in h3.1 h3.2)) hr.hn hr.hth hr.hhp hr.hFw hr.hCv hr.hMn hr.hmid hr.hwr hr.hlf hr.hNm) (At.of (vaP_perm (perm_swap3 _ _ _) hP2) (vaD_perm (perm_swap3 _ _ _) hD2) hS2)
      · have hno : ¬ z.La q = x2 ∨ ¬ (0 ≤ x3 ∧ x3 ≤ nI (z.Sz q) - 1) := Classical.not_and_iff_not_or_not.mp h5
        refine a8_item C hl hi hS hx1 hx2 hx3 hx4 ?_
        refine l8_item_mid (z := z) q x2 x3 x4 C hq (hr.hfs q hq) h2 h3 (Or.inr (a3.symm ▸ hno)) hP hD hS hls ⟨by omega, by omega⟩ (fun  H1 locs1  hP1 hD1 hS1 => ?_)
        refine lv_pop C.hx C.hb dL_law_550 rfl ?_
        refine a9_item C hl hi hS1 hx1 hx2 hx3 hx4 ?_
        refine l9_item_mid (z := z) q x2 x3 x4 C hq h2 h3 hno (Nat.le_of_ble_eq_true rfl) (vaP_perm (perm_swap3 _ _ _) hP1) (vaD_perm (perm_swap3 _ _ _) hD1) hS1 hls ⟨by omega, by omega⟩ (fun  H2 locs2  hP2 hD2 hS2 => ?_)
        refine finNI (cells := cells) (slots := slots) C rfl dL_law_575 dL_law_576 (by decide) (by omega) (by omega) ?_
        exact kont z H2 locs2 rfl rfl hr (At.of (vaP_perm (perm_swap3 _ _ _) hP2) (vaD_perm (perm_swap3 _ _ _) hD2) hS2)
  · skip
    refine a8_item C hl hi hS hx1 hx2 hx3 hx4 ?_
    refine l8_item_no (z := z) x1 x2 x3 x4 C hc1 hP hD hS hls ⟨by omega, by omega⟩ (fun  H1 locs1  hP1 hD1 hS1 => ?_)
    refine lv_pop C.hx C.hb dL_law_550 rfl ?_
    refine a9_item C hl hi hS1 hx1 hx2 hx3 hx4 ?_
    refine l9_item_no (z := z) x1 x2 x3 x4 C (fun h => hc1 (and_assoc.mp h)) (Nat.le_of_ble_eq_true rfl) (vaP_perm (perm_swap3 _ _ _) hP1) (vaD_perm (perm_swap3 _ _ _) hD1) hS1 hls ⟨by omega, by omega⟩ (fun  H2 locs2  hP2 hD2 hS2 => ?_)
    refine finNI (cells := cells) (slots := slots) C rfl dL_law_575 dL_law_576 (by decide) (by omega) (by omega) ?_
    exact kont z H2 locs2 rfl rfl hr (At.of (vaP_perm (perm_swap3 _ _ _) hP2) (vaD_perm (perm_swap3 _ _ _) hD2) hS2)
set_option maxHeartbeats 1000000 in
theorem st_cut {p : Program} {l : Launch} {e : Env} {s : State} {m : MethodId} {below : List Frame} {meth : Method} {c : Code} {b L : Nat} {xs : Nat → Int32} {E : EnvT} {tq : Nat} {H : Heap} {locs : List Loc} {cells slots : Nat} {Q : State → Prop} {ls : Array Slot} {z : ZT} {i : Nat} (C : LC p s m c b L xs E tq) (hl : lv_has ls 4 (lvL b z i)) (hi : i + 5 ≤ L) (hr : Rel z) (ha : At E s z H locs) (hc : cells + 12 ≤ 600000 ∧ slots + 44 ≤ 7302250)
    (kont : ∀ (z2 : ZT) (H1 : Heap) (locs1 : List Loc), z2.g0 = z.g0 → z2.m0 = z.m0 → Rel z2 → At E s z2 H1 locs1 → W p l e room_1 s m #[Value.ref b] below meth c H1 locs1 (cells + 12) (slots + 44) Q (F0 m 954 ls [])) : W p l e room_1 s m #[Value.ref b] below meth c H locs cells slots Q (F0 m 579 ls []) := by
  have hP := ha.hP
  have hD := ha.hD
  have hS := ha.hS
  have hls : ls.size = 4 := hl.1
  have hs1 := hr.hM.1.1
  have hs4 := hr.hM.1.2.1
  have hr8 := hr.hM.1.2.2
  have hU := hr.hM.2.1
  have hV := hr.hM.2.2.1
  generalize hx1 : xs (i + 1) = x1
  generalize hx2 : xs (i + 2) = x2
  generalize hx3 : xs (i + 3) = x3
  obtain ⟨m1, m2, m3, m4⟩ := hr.mk120
  by_cases hc1 : (0 ≤ x1 ∧ x1 ≤ 3) ∧ (¬ x2 < 0) ∧ (1 ≤ x3 ∧ x3 ≤ 40)
  · obtain ⟨h1, h2, h3⟩ := hc1
    obtain ⟨q, hq, rfl⟩ := inK h1
    obtain ⟨tt, htt, rfl⟩ := nI_of h2
    obtain ⟨cc, hc1, hc2, rfl⟩ := inR (A := 1) (B := 40) rfl rfl h3
    have hz := hr.hSz q hq
    have hst := hr.hst q hq
    rcases hr.hsh q hq with ⟨a1, a2⟩ | ⟨a1, a2, a3, a4⟩
    · skip
      refine a8_cut C hl hi hS hx1 hx2 hx3 ?_
      refine l8_cut_mid (z := z) q tt cc C hq (hr.hfs q hq) htt hc1 hc2 m1 m2 m3 hz hst.1 hst.2 (Or.inl a1) hP hD hS hls ⟨by omega, by omega⟩ (fun  H1 locs1  hP1 hD1 hS1 => ?_)
      refine lv_pop C.hx C.hb dL_law_598 rfl ?_
      refine a9_cut C hl hi hS1 hx1 hx2 hx3 ?_
      refine l9_cut_null (z := z) q tt cc C hq htt hc1 hc2 a2 (Nat.le_of_ble_eq_true rfl) (vaP_perm (perm_swap3 _ _ _) hP1) (vaD_perm (perm_swap3 _ _ _) hD1) hS1 hls ⟨by omega, by omega⟩ (fun  H2 locs2  hP2 hD2 hS2 => ?_)
      refine finNI (cells := cells) (slots := slots) C rfl dL_law_618 dL_law_619 (by decide) (by omega) (by omega) ?_
      exact kont z H2 locs2 rfl rfl hr (At.of (vaP_perm (perm_swap3 _ _ _) hP2) (vaD_perm (perm_swap3 _ _ _) hD2) hS2)
    · have hiff := cut_iff (tt := tt) (cc := cc) (n := z.Sz q) (st := z.st q) hr.hR m2 hc1
      have hs7 : 1 ≤ z.Sp q := a4 ▸ hst.1
      have hs8 : z.Sp q ≤ 1000 := a4 ▸ hst.2
      by_cases h5 : (tt + cc + 1 ≤ z.L.length ∧ 1 ≤ z.Sz q ∧ tmF z.M (tt + cc - 1) 31 ≤ (z.Sz q - 1) * z.st q)
      · have h6 := hiff.mp h5
        rw [a4] at h6
        by_cases h7 : (tt + cc + 1 ≤ z.L.length ∧ 1 ≤ z.Sz q ∧ z.M (tt + cc - 1 + 1) ≤ (z.Sz q - 1) * z.st q)
        · skip
          refine a8_cut C hl hi hS hx1 hx2 hx3 ?_
          refine l8_cut_yes (z := z) q tt cc C hq (hr.hfs q hq) htt hc1 hc2 m1 m2 m3 hz hst.1 hst.2 a1 h7 (cut_all m2 hc1 h5.1 h5.2.2) hP hD hS hls ⟨by omega, by omega⟩ (fun  H1 locs1  hP1 hD1 hS1 => ?_)
          refine lv_pop C.hx C.hb dL_law_598 rfl ?_
          refine a9_cut C hl hi hS1 hx1 hx2 hx3 ?_
          refine l9_cut_yes (z := z) q tt cc C hq htt hc1 hc2 hr.hk hr.hti hr.htb a2 hz hs7 hs8 (hr.hL ▸ h6) (Nat.le_of_ble_eq_true rfl) (vaP_perm (perm_swap3 _ _ _) hP1) (vaD_perm (perm_swap3 _ _ _) hD1) hS1 hls ⟨by omega, by omega⟩ (fun T2 S2 H2 locs2 hT2 hP2 hD2 hS2 => ?_)
          refine finNI (cells := cells) (slots := slots) C rfl dL_law_618 dL_law_619 (by decide) (by omega) (by omega) ?_
          exact kont (ZT.s_Su (ZT.s_mm (ZT.s_hc (ZT.s_Tn (ZT.s_md (ZT.s_gg (ZT.s_tl z (1)) (flF (meanF (z.f q) (z.st q) z.M tt cc) 32 z.gg)) (nI (adAll z.Ti z.k).length)) (T2)) (1)) (flF (meanM z.It q (z.Sp q) T2 tt cc) 32 z.mm)) (S2)) H2 locs2 rfl rfl (Rel.of (z := (ZT.s_Su (ZT.s_mm (ZT.s_hc (ZT.s_Tn (ZT.s_md (ZT.s_gg (ZT.s_tl z (1)) (flF (meanF (z.f q) (z.st q) z.M tt cc) 32 z.gg)) (nI (adAll z.Ti z.k).length)) (T2)) (1)) (flF (meanM z.It q (z.Sp q) T2 tt cc) 32 z.mm)) (S2))) hr.hM hr.hps hr.hL hr.hk hr.hti hr.htb hr.hR hr.hlt hr.hla hr.hfs hr.hfd hr.hSz hr.hst hr.hsh hr.hIt hr.hIb hr.hn hr.hth hr.hhp hr.hFw hr.hCv hr.hMn hr.hmid hr.hwr hr.hlf hr.hNm) (At.of (vaP_perm (perm_swap3 _ _ _) hP2) (vaD_perm (perm_swap3 _ _ _) hD2) hS2)
        · skip
          refine a8_cut C hl hi hS hx1 hx2 hx3 ?_
          refine l8_cut_mid (z := z) q tt cc C hq (hr.hfs q hq) htt hc1 hc2 m1 m2 m3 hz hst.1 hst.2 (Or.inr h7) hP hD hS hls ⟨by omega, by omega⟩ (fun  H1 locs1  hP1 hD1 hS1 => ?_)
          refine lv_pop C.hx C.hb dL_law_598 rfl ?_
          refine a9_cut C hl hi hS1 hx1 hx2 hx3 ?_
          refine l9_cut_yes (z := z) q tt cc C hq htt hc1 hc2 hr.hk hr.hti hr.htb a2 hz hs7 hs8 (hr.hL ▸ h6) (Nat.le_of_ble_eq_true rfl) (vaP_perm (perm_swap3 _ _ _) hP1) (vaD_perm (perm_swap3 _ _ _) hD1) hS1 hls ⟨by omega, by omega⟩ (fun T2 S2 H2 locs2 hT2 hP2 hD2 hS2 => ?_)
          refine finNI (cells := cells) (slots := slots) C rfl dL_law_618 dL_law_619 (by decide) (by omega) (by omega) ?_
          exact kont (ZT.s_Su (ZT.s_mm (ZT.s_hc (ZT.s_Tn (ZT.s_md z (nI (adAll z.Ti z.k).length)) (T2)) (1)) (flF (meanM z.It q (z.Sp q) T2 tt cc) 32 z.mm)) (S2)) H2 locs2 rfl rfl (Rel.of (z := (ZT.s_Su (ZT.s_mm (ZT.s_hc (ZT.s_Tn (ZT.s_md z (nI (adAll z.Ti z.k).length)) (T2)) (1)) (flF (meanM z.It q (z.Sp q) T2 tt cc) 32 z.mm)) (S2))) hr.hM hr.hps hr.hL hr.hk hr.hti hr.htb hr.hR hr.hlt hr.hla hr.hfs hr.hfd hr.hSz hr.hst hr.hsh hr.hIt hr.hIb hr.hn hr.hth hr.hhp hr.hFw hr.hCv hr.hMn hr.hmid hr.hwr hr.hlf hr.hNm) (At.of (vaP_perm (perm_swap3 _ _ _) hP2) (vaD_perm (perm_swap3 _ _ _) hD2) hS2)
      · have h6 : ¬ _ := fun h9 => h5 (hiff.mpr h9)
        rw [a4] at h6
        have h7 : ¬ (tt + cc + 1 ≤ z.L.length ∧ 1 ≤ z.Sz q ∧ z.M (tt + cc - 1 + 1) ≤ (z.Sz q - 1) * z.st q) := fun h9 => h5 ⟨h9.1, h9.2.1, Nat.le_trans (tm_end (m2 _ (by have := h9.1; omega))) h9.2.2⟩
        refine a8_cut C hl hi hS hx1 hx2 hx3 ?_
        refine l8_cut_mid (z := z) q tt cc C hq (hr.hfs q hq) htt hc1 hc2 m1 m2 m3 hz hst.1 hst.2 (Or.inr h7) hP hD hS hls ⟨by omega, by omega⟩ (fun  H1 locs1  hP1 hD1 hS1 => ?_)
        refine lv_pop C.hx C.hb dL_law_598 rfl ?_
        refine a9_cut C hl hi hS1 hx1 hx2 hx3 ?_
        refine l9_cut_not (z := z) q tt cc C hq htt hc1 hc2 hr.hk hr.hti hr.htb a2 hz hs7 hs8 (hr.hL ▸ h6) (Nat.le_of_ble_eq_true rfl) (vaP_perm (perm_swap3 _ _ _) hP1) (vaD_perm (perm_swap3 _ _ _) hD1) hS1 hls ⟨by omega, by omega⟩ (fun T2 S2 H2 locs2 hT2 hP2 hD2 hS2 => ?_)
        refine finNI (cells := cells) (slots := slots) C rfl dL_law_618 dL_law_619 (by decide) (by omega) (by omega) ?_
        exact kont (ZT.s_Su (ZT.s_Tn (ZT.s_md z (nI (adAll z.Ti z.k).length)) (T2)) (S2)) H2 locs2 rfl rfl (Rel.of (z := (ZT.s_Su (ZT.s_Tn (ZT.s_md z (nI (adAll z.Ti z.k).length)) (T2)) (S2))) hr.hM hr.hps hr.hL hr.hk hr.hti hr.htb hr.hR hr.hlt hr.hla hr.hfs hr.hfd hr.hSz hr.hst hr.hsh hr.hIt hr.hIb hr.hn hr.hth hr.hhp hr.hFw hr.hCv hr.hMn hr.hmid hr.hwr hr.hlf hr.hNm) (At.of (vaP_perm (perm_swap3 _ _ _) hP2) (vaD_perm (perm_swap3 _ _ _) hD2) hS2)
  · skip
    refine a8_cut C hl hi hS hx1 hx2 hx3 ?_
    refine l8_cut_no (z := z) x1 x2 x3 C hc1 hP hD hS hls ⟨by omega, by omega⟩ (fun  H1 locs1  hP1 hD1 hS1 => ?_)
    refine lv_pop C.hx C.hb dL_law_598 rfl ?_
    refine a9_cut C hl hi hS1 hx1 hx2 hx3 ?_
    refine l9_cut_no (z := z) x1 x2 x3 C hc1 (Nat.le_of_ble_eq_true rfl) (vaP_perm (perm_swap3 _ _ _) hP1) (vaD_perm (perm_swap3 _ _ _) hD1) hS1 hls ⟨by omega, by omega⟩ (fun  H2 locs2  hP2 hD2 hS2 => ?_)
    refine finNI (cells := cells) (slots := slots) C rfl dL_law_618 dL_law_619 (by decide) (by omega) (by omega) ?_
    exact kont z H2 locs2 rfl rfl hr (At.of (vaP_perm (perm_swap3 _ _ _) hP2) (vaD_perm (perm_swap3 _ _ _) hD2) hS2)
set_option maxHeartbeats 1000000 in
theorem st_mean {p : Program} {l : Launch} {e : Env} {s : State} {m : MethodId} {below : List Frame} {meth : Method} {c : Code} {b L : Nat} {xs : Nat → Int32} {E : EnvT} {tq : Nat} {H : Heap} {locs : List Loc} {cells slots : Nat} {Q : State → Prop} {ls : Array Slot} {z : ZT} {i : Nat} (C : LC p s m c b L xs E tq) (hl : lv_has ls 4 (lvL b z i)) (hi : i + 5 ≤ L) (hr : Rel z) (ha : At E s z H locs) (hc : cells + 12 ≤ 600000 ∧ slots + 44 ≤ 7302250)
    (kont : ∀ (z2 : ZT) (H1 : Heap) (locs1 : List Loc), z2.g0 = z.g0 → z2.m0 = z.m0 → Rel z2 → At E s z2 H1 locs1 → W p l e room_1 s m #[Value.ref b] below meth c H1 locs1 (cells + 12) (slots + 44) Q (F0 m 954 ls [])) : W p l e room_1 s m #[Value.ref b] below meth c H locs cells slots Q (F0 m 622 ls []) := by
  have hP := ha.hP
  have hD := ha.hD
  have hS := ha.hS
  have hls : ls.size = 4 := hl.1
  have hs1 := hr.hM.1.1
  have hs4 := hr.hM.1.2.1
  have hr8 := hr.hM.1.2.2
  have hU := hr.hM.2.1
  have hV := hr.hM.2.2.1
  generalize hx1 : xs (i + 1) = x1
  refine a8_mean C hl hi hS hx1 ?_
  refine l8_mean (z := z) x1 C  hP   hls ⟨by omega, by omega⟩ ?_
  refine lv_pop C.hx C.hb dL_law_631 rfl ?_
  refine a9_mean C hl hi hS hx1 ?_
  refine l9_mean (z := z) x1 C  (Nat.le_of_ble_eq_true rfl) (vaP_perm (perm_swap3 _ _ _) hP) hls ⟨by omega, by omega⟩ ?_
  refine finNI (cells := cells) (slots := slots) C rfl dL_law_641 dL_law_642 (by decide) (by omega) (by omega) ?_
  exact kont z H locs rfl rfl hr (At.of hP hD hS)
set_option maxHeartbeats 1000000 in
theorem st_strength {p : Program} {l : Launch} {e : Env} {s : State} {m : MethodId} {below : List Frame} {meth : Method} {c : Code} {b L : Nat} {xs : Nat → Int32} {E : EnvT} {tq : Nat} {H : Heap} {locs : List Loc} {cells slots : Nat} {Q : State → Prop} {ls : Array Slot} {z : ZT} {i : Nat} (C : LC p s m c b L xs E tq) (hl : lv_has ls 4 (lvL b z i)) (hi : i + 5 ≤ L) (hr : Rel z) (ha : At E s z H locs) (hc : cells + 12 ≤ 600000 ∧ slots + 44 ≤ 7302250)
    (kont : ∀ (z2 : ZT) (H1 : Heap) (locs1 : List Loc), z2.g0 = z.g0 → z2.m0 = z.m0 → Rel z2 → At E s z2 H1 locs1 → W p l e room_1 s m #[Value.ref b] below meth c H1 locs1 (cells + 12) (slots + 44) Q (F0 m 954 ls [])) : W p l e room_1 s m #[Value.ref b] below meth c H locs cells slots Q (F0 m 645 ls []) := by
  have hP := ha.hP
  have hD := ha.hD
  have hS := ha.hS
  have hls : ls.size = 4 := hl.1
  have hs1 := hr.hM.1.1
  have hs4 := hr.hM.1.2.1
  have hr8 := hr.hM.1.2.2
  have hU := hr.hM.2.1
  have hV := hr.hM.2.2.1
  generalize hx1 : xs (i + 1) = x1
  refine a8_strength C hl hi hS hx1 ?_
  refine l8_strength (z := z) x1 C  hP  (C.hQ H (fun q hq => hS.2.1 q hq (Nat.not_le.mpr hq))) hls ⟨by omega, by omega⟩ ?_
  refine lv_pop2_2 C.hx C.hb dL_law_654 rfl ?_
  refine a9_strength C hl hi hS hx1 ?_
  refine l9_strength (z := z) x1 C  (Nat.le_of_ble_eq_true rfl) (vaP_perm (perm_swap3 _ _ _) hP) hls ⟨by omega, by omega⟩ ?_
  refine finNL (cells := cells) (slots := slots) C rfl dL_law_664 dL_law_665 (by decide) (by omega) (by omega) ?_
  exact kont z H locs rfl rfl hr (At.of hP hD hS)
set_option maxHeartbeats 1000000 in
theorem st_line {p : Program} {l : Launch} {e : Env} {s : State} {m : MethodId} {below : List Frame} {meth : Method} {c : Code} {b L : Nat} {xs : Nat → Int32} {E : EnvT} {tq : Nat} {H : Heap} {locs : List Loc} {cells slots : Nat} {Q : State → Prop} {ls : Array Slot} {z : ZT} {i : Nat} (C : LC p s m c b L xs E tq) (hl : lv_has ls 4 (lvL b z i)) (hi : i + 5 ≤ L) (hr : Rel z) (ha : At E s z H locs) (hc : cells + 12 ≤ 600000 ∧ slots + 44 ≤ 7302250)
    (kont : ∀ (z2 : ZT) (H1 : Heap) (locs1 : List Loc), z2.g0 = z.g0 → z2.m0 = z.m0 → Rel z2 → At E s z2 H1 locs1 → W p l e room_1 s m #[Value.ref b] below meth c H1 locs1 (cells + 12) (slots + 44) Q (F0 m 954 ls [])) : W p l e room_1 s m #[Value.ref b] below meth c H locs cells slots Q (F0 m 668 ls []) := by
  have hP := ha.hP
  have hD := ha.hD
  have hS := ha.hS
  have hls : ls.size = 4 := hl.1
  have hs1 := hr.hM.1.1
  have hs4 := hr.hM.1.2.1
  have hr8 := hr.hM.1.2.2
  have hU := hr.hM.2.1
  have hV := hr.hM.2.2.1
  generalize hx1 : xs (i + 1) = x1
  generalize hx2 : xs (i + 2) = x2
  have hn := hr.hn
  by_cases hc1 : ((1 ≤ x1 ∧ x1 ≤ 10000) ∧ (1 ≤ x2 ∧ x2 ≤ 10000)) ∧ z.n < 12
  · skip
    refine a8_line C hl hi hS hx1 hx2 ?_
    refine l8_line_yes (z := z) x1 x2 C hc1.2 hc1.1 hP hD hS hls ⟨by omega, by omega⟩ (fun  H1 locs1  hP1 hD1 hS1 => ?_)
    refine lv_pop C.hx C.hb dL_law_682 rfl ?_
    refine a9_line C hl hi hS1 hx1 hx2 ?_
    refine l9_line_yes (z := z) x1 x2 C hc1.2 hc1.1 (Nat.le_of_ble_eq_true rfl) (vaP_perm (perm_swap3 _ _ _) hP1) (vaD_perm (perm_swap3 _ _ _) hD1) hS1 hls ⟨by omega, by omega⟩ (fun  H2 locs2  hP2 hD2 hS2 => ?_)
    refine finNI (cells := cells) (slots := slots) C rfl dL_law_697 dL_law_698 (by decide) (by omega) (by omega) ?_
    exact kont (ZT.s_ld (ZT.s_Bo (ZT.s_To (ZT.s_n z (z.n + 1)) (upd z.To z.n x1)) (upd z.Bo z.n x2)) (0)) H2 locs2 rfl rfl (Rel.of (z := (ZT.s_ld (ZT.s_Bo (ZT.s_To (ZT.s_n z (z.n + 1)) (upd z.To z.n x1)) (upd z.Bo z.n x2)) (0))) hr.hM hr.hps hr.hL hr.hk hr.hti hr.htb hr.hR hr.hlt hr.hla hr.hfs hr.hfd hr.hSz hr.hst hr.hsh hr.hIt hr.hIb (show z.n + 1 ≤ 12 from hc1.2) hr.hth (Or.inl rfl) hr.hFw hr.hCv hr.hMn hr.hmid hr.hwr hr.hlf hr.hNm) (At.of (vaP_perm (perm_swap3 _ _ _) hP2) (vaD_perm (perm_swap3 _ _ _) hD2) hS2)
  · have hno := nor hc1 (c := 12 ≤ z.n) (by omega)
    refine a8_line C hl hi hS hx1 hx2 ?_
    refine l8_line_no (z := z) x1 x2 C hr.hn hno hP hD hS hls ⟨by omega, by omega⟩ (fun  H1 locs1  hP1 hD1 hS1 => ?_)
    refine lv_pop C.hx C.hb dL_law_682 rfl ?_
    refine a9_line C hl hi hS1 hx1 hx2 ?_
    refine l9_line_no (z := z) x1 x2 C hr.hn hno (Nat.le_of_ble_eq_true rfl) (vaP_perm (perm_swap3 _ _ _) hP1) (vaD_perm (perm_swap3 _ _ _) hD1) hS1 hls ⟨by omega, by omega⟩ (fun  H2 locs2  hP2 hD2 hS2 => ?_)
    refine finNI (cells := cells) (slots := slots) C rfl dL_law_697 dL_law_698 (by decide) (by omega) (by omega) ?_
    exact kont z H2 locs2 rfl rfl hr (At.of (vaP_perm (perm_swap3 _ _ _) hP2) (vaD_perm (perm_swap3 _ _ _) hD2) hS2)
set_option maxHeartbeats 1000000 in
theorem st_unline {p : Program} {l : Launch} {e : Env} {s : State} {m : MethodId} {below : List Frame} {meth : Method} {c : Code} {b L : Nat} {xs : Nat → Int32} {E : EnvT} {tq : Nat} {H : Heap} {locs : List Loc} {cells slots : Nat} {Q : State → Prop} {ls : Array Slot} {z : ZT} {i : Nat} (C : LC p s m c b L xs E tq) (hl : lv_has ls 4 (lvL b z i)) (hi : i + 5 ≤ L) (hr : Rel z) (ha : At E s z H locs) (hc : cells + 12 ≤ 600000 ∧ slots + 44 ≤ 7302250)
    (kont : ∀ (z2 : ZT) (H1 : Heap) (locs1 : List Loc), z2.g0 = z.g0 → z2.m0 = z.m0 → Rel z2 → At E s z2 H1 locs1 → W p l e room_1 s m #[Value.ref b] below meth c H1 locs1 (cells + 12) (slots + 44) Q (F0 m 954 ls [])) : W p l e room_1 s m #[Value.ref b] below meth c H locs cells slots Q (F0 m 701 ls []) := by
  have hP := ha.hP
  have hD := ha.hD
  have hS := ha.hS
  have hls : ls.size = 4 := hl.1
  have hs1 := hr.hM.1.1
  have hs4 := hr.hM.1.2.1
  have hr8 := hr.hM.1.2.2
  have hU := hr.hM.2.1
  have hV := hr.hM.2.2.1
  refine a8_unline C hl hi hS  ?_
  refine l8_unline (z := z)  C  hP hD hS hls ⟨by omega, by omega⟩ (fun  H1 locs1  hP1 hD1 hS1 => ?_)
  refine lv_pop C.hx C.hb dL_law_705 rfl ?_
  refine a9_unline C hl hi hS1  ?_
  refine l9_unline (z := z)  C  (Nat.le_of_ble_eq_true rfl) (vaP_perm (perm_swap3 _ _ _) hP1) (vaD_perm (perm_swap3 _ _ _) hD1) hS1 hls ⟨by omega, by omega⟩ (fun  H2 locs2  hP2 hD2 hS2 => ?_)
  refine finNI (cells := cells) (slots := slots) C rfl dL_law_710 dL_law_711 (by decide) (by omega) (by omega) ?_
  exact kont (ZT.s_ld (ZT.s_n z (0)) (0)) H2 locs2 rfl rfl (Rel.of (z := (ZT.s_ld (ZT.s_n z (0)) (0))) hr.hM hr.hps hr.hL hr.hk hr.hti hr.htb hr.hR hr.hlt hr.hla hr.hfs hr.hfd hr.hSz hr.hst hr.hsh hr.hIt hr.hIb (Nat.zero_le 12) hr.hth (Or.inl rfl) hr.hFw hr.hCv hr.hMn hr.hmid hr.hwr hr.hlf hr.hNm) (At.of (vaP_perm (perm_swap3 _ _ _) hP2) (vaD_perm (perm_swap3 _ _ _) hD2) hS2)
set_option maxHeartbeats 1000000 in
theorem st_slip {p : Program} {l : Launch} {e : Env} {s : State} {m : MethodId} {below : List Frame} {meth : Method} {c : Code} {b L : Nat} {xs : Nat → Int32} {E : EnvT} {tq : Nat} {H : Heap} {locs : List Loc} {cells slots : Nat} {Q : State → Prop} {ls : Array Slot} {z : ZT} {i : Nat} (C : LC p s m c b L xs E tq) (hl : lv_has ls 4 (lvL b z i)) (hi : i + 5 ≤ L) (hr : Rel z) (ha : At E s z H locs) (hc : cells + 12 ≤ 600000 ∧ slots + 44 ≤ 7302250)
    (kont : ∀ (z2 : ZT) (H1 : Heap) (locs1 : List Loc), z2.g0 = z.g0 → z2.m0 = z.m0 → Rel z2 → At E s z2 H1 locs1 → W p l e room_1 s m #[Value.ref b] below meth c H1 locs1 (cells + 12) (slots + 44) Q (F0 m 954 ls [])) : W p l e room_1 s m #[Value.ref b] below meth c H locs cells slots Q (F0 m 714 ls []) := by
  have hP := ha.hP
  have hD := ha.hD
  have hS := ha.hS
  have hls : ls.size = 4 := hl.1
  have hs1 := hr.hM.1.1
  have hs4 := hr.hM.1.2.1
  have hr8 := hr.hM.1.2.2
  have hU := hr.hM.2.1
  have hV := hr.hM.2.2.1
  generalize hx1 : xs (i + 1) = x1
  by_cases hc1 : 0 ≤ x1 ∧ x1 ≤ 100
  · obtain ⟨te, -, ht, rfl⟩ := inR (A := 0) (B := 100) rfl rfl hc1
    refine a8_slip C hl hi hS hx1 ?_
    refine l8_slip_yes (z := z) te C ht hP hD hS hls ⟨by omega, by omega⟩ (fun  H1 locs1  hP1 hD1 hS1 => ?_)
    refine lv_pop C.hx C.hb dL_law_723 rfl ?_
    refine a9_slip C hl hi hS1 hx1 ?_
    refine l9_slip_yes (z := z) te C hc1 (Nat.le_of_ble_eq_true rfl) (vaP_perm (perm_swap3 _ _ _) hP1) (vaD_perm (perm_swap3 _ _ _) hD1) hS1 hls ⟨by omega, by omega⟩ (fun  H2 locs2  hP2 hD2 hS2 => ?_)
    refine finNI (cells := cells) (slots := slots) C rfl dL_law_733 dL_law_734 (by decide) (by omega) (by omega) ?_
    exact kont (ZT.s_ld (ZT.s_th z (te)) (0)) H2 locs2 rfl rfl (Rel.of (z := (ZT.s_ld (ZT.s_th z (te)) (0))) hr.hM hr.hps hr.hL hr.hk hr.hti hr.htb hr.hR hr.hlt hr.hla hr.hfs hr.hfd hr.hSz hr.hst hr.hsh hr.hIt hr.hIb hr.hn (ht) (Or.inl rfl) hr.hFw hr.hCv hr.hMn hr.hmid hr.hwr hr.hlf hr.hNm) (At.of (vaP_perm (perm_swap3 _ _ _) hP2) (vaD_perm (perm_swap3 _ _ _) hD2) hS2)
  · skip
    refine a8_slip C hl hi hS hx1 ?_
    refine l8_slip_no (z := z) x1 C hc1 hP hD hS hls ⟨by omega, by omega⟩ (fun  H1 locs1  hP1 hD1 hS1 => ?_)
    refine lv_pop C.hx C.hb dL_law_723 rfl ?_
    refine a9_slip C hl hi hS1 hx1 ?_
    refine l9_slip_no (z := z) x1 C hc1 (Nat.le_of_ble_eq_true rfl) (vaP_perm (perm_swap3 _ _ _) hP1) (vaD_perm (perm_swap3 _ _ _) hD1) hS1 hls ⟨by omega, by omega⟩ (fun  H2 locs2  hP2 hD2 hS2 => ?_)
    refine finNI (cells := cells) (slots := slots) C rfl dL_law_733 dL_law_734 (by decide) (by omega) (by omega) ?_
    exact kont z H2 locs2 rfl rfl hr (At.of (vaP_perm (perm_swap3 _ _ _) hP2) (vaD_perm (perm_swap3 _ _ _) hD2) hS2)
set_option maxHeartbeats 1000000 in
theorem s9_heap {p : Program} {l : Launch} {e : Env} {s : State} {m : MethodId} {below : List Frame} {meth : Method} {c : Code} {b L : Nat} {xs : Nat → Int32} {E : EnvT} {tq : Nat} {H : Heap} {locs : List Loc} {cells slots : Nat} {Q : State → Prop} {ls : Array Slot} {z : ZT} {i : Nat} {x1 : Int32} (C : LC p s m c b L xs E tq) (hl : lv_has ls 4 (lvL b z i)) (hi : i + 5 ≤ L) (hr : Rel z) (ha : At E s z H locs) (hc : cells + 12 ≤ 600000 ∧ slots + 44 ≤ 7302250) (hx1 : xs (i + 1) = x1)
    (kont : ∀ (z2 : ZT) (H1 : Heap) (locs1 : List Loc), z2.g0 = z.g0 → z2.m0 = z.m0 → Rel z2 → At E s z2 H1 locs1 → W p l e room_1 s m #[Value.ref b] below meth c H1 locs1 (cells + 12) (slots + 44) Q (F0 m 954 ls [])) : W p l e room_1 s m #[Value.ref b] below meth c H locs cells slots Q (F0 m (789 + 3) ls (.int (fHp (hpR (cvS z)) x1) :: [])) := by
  have hP := ha.hP
  have hD := ha.hD
  have hS := ha.hS
  have hls : ls.size = 4 := hl.1
  have hs1 := hr.hM.1.1
  have hs4 := hr.hM.1.2.1
  have hr8 := hr.hM.1.2.2
  have h1 : ∀ i, i < 2 * z.sh - 1 + 4 * z.rg → cvS z i = covM z.sh z.U z.V z.Te z.Si z.Ba z.Sm z.Gr z.To z.Bo z.th z.n i := fun i hi => if_pos hi
  have h2 : ∀ i, 2 * z.sh - 1 + 4 * z.rg ≤ i → cvS z i = 0 := fun i hi => if_neg (by omega)
  refine a9_heap C hl hi hS hx1 ?_
  refine l9_heap (z := z)  x1 C hr.hM hr.hn hr.hth hr.hCv (Nat.le_of_ble_eq_true rfl) (vaP_perm (perm_swap3 _ _ _) hP) (vaD_perm (perm_swap3 _ _ _) hD) hS hls ⟨by omega, by omega⟩ (fun ab1 be1 C3 F3 H2 locs2 hC3 hP2 hD2 hS2 => ?_)
  refine finI (cells := cells) (slots := slots) C (by rw [hp_eq (by omega) (covR_lt hr.hn) h1 h2]) dL_law_801 (by decide) (by omega) (by omega) ?_
  exact kont (ZT.s_FF (ZT.s_Cv (ZT.s_uy (ZT.s_ux z (ab1)) (be1)) (C3)) (F3)) H2 locs2 rfl rfl (Rel.of (z := (ZT.s_FF (ZT.s_Cv (ZT.s_uy (ZT.s_ux z (ab1)) (be1)) (C3)) (F3))) hr.hM hr.hps hr.hL hr.hk hr.hti hr.htb hr.hR hr.hlt hr.hla hr.hfs hr.hfd hr.hSz hr.hst hr.hsh hr.hIt hr.hIb hr.hn hr.hth hr.hhp hr.hFw (hC3) hr.hMn hr.hmid hr.hwr hr.hlf hr.hNm) (At.of (vaP_perm (perm_swap3 _ _ _) hP2) (vaD_perm (perm_swap3 _ _ _) hD2) hS2)
set_option maxHeartbeats 1000000 in
theorem st_heap {p : Program} {l : Launch} {e : Env} {s : State} {m : MethodId} {below : List Frame} {meth : Method} {c : Code} {b L : Nat} {xs : Nat → Int32} {E : EnvT} {tq : Nat} {H : Heap} {locs : List Loc} {cells slots : Nat} {Q : State → Prop} {ls : Array Slot} {z : ZT} {i : Nat} (C : LC p s m c b L xs E tq) (hl : lv_has ls 4 (lvL b z i)) (hi : i + 5 ≤ L) (hr : Rel z) (ha : At E s z H locs) (hc : cells + 12 ≤ 600000 ∧ slots + 44 ≤ 7302250)
    (kont : ∀ (z2 : ZT) (H1 : Heap) (locs1 : List Loc), z2.g0 = z.g0 → z2.m0 = z.m0 → Rel z2 → At E s z2 H1 locs1 → W p l e room_1 s m #[Value.ref b] below meth c H1 locs1 (cells + 12) (slots + 44) Q (F0 m 954 ls [])) : W p l e room_1 s m #[Value.ref b] below meth c H locs cells slots Q (F0 m 783 ls []) := by
  have hP := ha.hP
  have hD := ha.hD
  have hS := ha.hS
  have hls : ls.size = 4 := hl.1
  have hs1 := hr.hM.1.1
  have hs4 := hr.hM.1.2.1
  have hr8 := hr.hM.1.2.2
  have hU := hr.hM.2.1
  have hV := hr.hM.2.2.1
  generalize hx1 : xs (i + 1) = x1
  rcases hr.hhp with hld | ⟨hld, hsz, htg, hRC⟩
  · have hP0 : va_P E.1 vwCl ((wC E (ZT.s_ld z 0) ++ wM E z) ++ poolC E z.ps) H := by rw [wC_ld hld, List.append_assoc]; exact hP
    have hD0 : va_D (AA s) ((wC E (ZT.s_ld z 0) ++ wM E z) ++ poolC E z.ps) := by rw [wC_ld hld, List.append_assoc]; exact hD
    refine a8_heap C hl hi hS hx1 ?_
    refine l8_heap_yes (z := z) (pl := []) x1 C hs1 hs4 hr8 hr.hn hr.hth (PsOk_PA hs1 hs4 hr8 hr.hn hr.hps) hr.hFw (hpR_12 (covR_lt hr.hn)) hP0 hD0 hS hls ⟨by omega, by omega⟩ (fun N2 X2 F2 C2 H1 locs1 hw hP1 hD1 hS1 => ?_)
    rw [List.append_assoc] at hP1 hD1
    exact s9_heap (z := (ZT.s_Ch (ZT.s_Fw (ZT.s_Ex (ZT.s_Nu (ZT.s_ld (ZT.s_sz (ZT.s_tg (ZT.s_cd z (nI (esC (cvS z)).length)) (nI (orC (cvS z) 39))) (nI (hpR (cvS z)).length)) (1)) (N2)) (X2)) (F2)) (C2))) C hl hi (Rel.of (z := (ZT.s_Ch (ZT.s_Fw (ZT.s_Ex (ZT.s_Nu (ZT.s_ld (ZT.s_sz (ZT.s_tg (ZT.s_cd z (nI (esC (cvS z)).length)) (nI (orC (cvS z) 39))) (nI (hpR (cvS z)).length)) (1)) (N2)) (X2)) (F2)) (C2))) hr.hM hr.hps hr.hL hr.hk hr.hti hr.htb hr.hR hr.hlt hr.hla hr.hfs hr.hfd hr.hSz hr.hst hr.hsh hr.hIt hr.hIb hr.hn hr.hth (Or.inr ⟨(show ¬ (1 : Int32) = 0 by decide), rfl, rfl, hw.1⟩) (hw.2) hr.hCv hr.hMn hr.hmid hr.hwr hr.hlf hr.hNm) (At.of hP1 hD1 hS1) hc hx1 kont
  · have hP0 : va_P E.1 vwCl (wC E (ZT.s_sz z (nI (hpR (cvS z)).length)) ++ (wM E z ++ poolC E z.ps)) H := by rw [wC_sz hsz]; exact hP
    have hD0 : va_D (AA s) (wC E (ZT.s_sz z (nI (hpR (cvS z)).length)) ++ (wM E z ++ poolC E z.ps)) := by rw [wC_sz hsz]; exact hD
    refine a8_heap C hl hi hS hx1 ?_
    refine l8_heap_no (z := z) (hpR (cvS z)) x1 C hld hRC (hpR_12 (covR_lt hr.hn)) hP0 hD0 hS hls ⟨by omega, by omega⟩ (fun H1 locs1 hP1 hD1 hS1 => ?_)
    rw [wC_sz hsz] at hP1 hD1
    exact s9_heap (z := z) C hl hi hr (At.of hP1 hD1 hS1) hc hx1 kont
set_option maxHeartbeats 1000000 in
theorem s9_strange {p : Program} {l : Launch} {e : Env} {s : State} {m : MethodId} {below : List Frame} {meth : Method} {c : Code} {b L : Nat} {xs : Nat → Int32} {E : EnvT} {tq : Nat} {H : Heap} {locs : List Loc} {cells slots : Nat} {Q : State → Prop} {ls : Array Slot} {z : ZT} {i : Nat} (C : LC p s m c b L xs E tq) (hl : lv_has ls 4 (lvL b z i)) (hi : i + 5 ≤ L) (hr : Rel z) (ha : At E s z H locs) (hc : cells + 12 ≤ 600000 ∧ slots + 44 ≤ 7302250) 
    (kont : ∀ (z2 : ZT) (H1 : Heap) (locs1 : List Loc), z2.g0 = z.g0 → z2.m0 = z.m0 → Rel z2 → At E s z2 H1 locs1 → W p l e room_1 s m #[Value.ref b] below meth c H1 locs1 (cells + 12) (slots + 44) Q (F0 m 954 ls [])) : W p l e room_1 s m #[Value.ref b] below meth c H locs cells slots Q (F0 m (807 + 3) ls (.int (nI (mdf (2 ^ z.n - 1) (orC (cvS z) 39))) :: [])) := by
  have hP := ha.hP
  have hD := ha.hD
  have hS := ha.hS
  have hls : ls.size = 4 := hl.1
  have hs1 := hr.hM.1.1
  have hs4 := hr.hM.1.2.1
  have hr8 := hr.hM.1.2.2
  have h1 : ∀ i, i < 2 * z.sh - 1 + 4 * z.rg → cvS z i = covM z.sh z.U z.V z.Te z.Si z.Ba z.Sm z.Gr z.To z.Bo z.th z.n i := fun i hi => if_pos hi
  have h2 : ∀ i, 2 * z.sh - 1 + 4 * z.rg ≤ i → cvS z i = 0 := fun i hi => if_neg (by omega)
  refine lv_pop C.hx C.hb dL_law_810 rfl ?_
  refine a9_strange C hl hi hS  ?_
  refine l9_strange (z := z)  C hr.hM hr.hn hr.hth (Nat.le_of_ble_eq_true rfl) (vaP_perm (perm_swap3 _ _ _) hP) (vaD_perm (perm_swap3 _ _ _) hD) hS hls ⟨by omega, by omega⟩ (fun ab1 be1 H2 locs2  hP2 hD2 hS2 => ?_)
  refine finNI (cells := cells) (slots := slots) C rfl dL_law_815 dL_law_816 (by decide) (by omega) (by omega) ?_
  exact kont (ZT.s_Cv (ZT.s_uy (ZT.s_ux z (ab1)) (be1)) (flF (covM z.sh z.U z.V z.Te z.Si z.Ba z.Sm z.Gr z.To z.Bo z.th z.n) (2 * z.sh - 1 + 4 * z.rg) z.Cv)) H2 locs2 rfl rfl (Rel.of (z := (ZT.s_Cv (ZT.s_uy (ZT.s_ux z (ab1)) (be1)) (flF (covM z.sh z.U z.V z.Te z.Si z.Ba z.Sm z.Gr z.To z.Bo z.th z.n) (2 * z.sh - 1 + 4 * z.rg) z.Cv))) hr.hM hr.hps hr.hL hr.hk hr.hti hr.htb hr.hR hr.hlt hr.hla hr.hfs hr.hfd hr.hSz hr.hst hr.hsh hr.hIt hr.hIb hr.hn hr.hth hr.hhp hr.hFw (fun i => flF_b (covM_lt hr.hn) hr.hCv i) hr.hMn hr.hmid hr.hwr hr.hlf hr.hNm) (At.of (vaP_perm (perm_swap3 _ _ _) hP2) (vaD_perm (perm_swap3 _ _ _) hD2) hS2)
set_option maxHeartbeats 1000000 in
theorem st_strange {p : Program} {l : Launch} {e : Env} {s : State} {m : MethodId} {below : List Frame} {meth : Method} {c : Code} {b L : Nat} {xs : Nat → Int32} {E : EnvT} {tq : Nat} {H : Heap} {locs : List Loc} {cells slots : Nat} {Q : State → Prop} {ls : Array Slot} {z : ZT} {i : Nat} (C : LC p s m c b L xs E tq) (hl : lv_has ls 4 (lvL b z i)) (hi : i + 5 ≤ L) (hr : Rel z) (ha : At E s z H locs) (hc : cells + 12 ≤ 600000 ∧ slots + 44 ≤ 7302250)
    (kont : ∀ (z2 : ZT) (H1 : Heap) (locs1 : List Loc), z2.g0 = z.g0 → z2.m0 = z.m0 → Rel z2 → At E s z2 H1 locs1 → W p l e room_1 s m #[Value.ref b] below meth c H1 locs1 (cells + 12) (slots + 44) Q (F0 m 954 ls [])) : W p l e room_1 s m #[Value.ref b] below meth c H locs cells slots Q (F0 m 806 ls []) := by
  have hP := ha.hP
  have hD := ha.hD
  have hS := ha.hS
  have hls : ls.size = 4 := hl.1
  have hs1 := hr.hM.1.1
  have hs4 := hr.hM.1.2.1
  have hr8 := hr.hM.1.2.2
  have hU := hr.hM.2.1
  have hV := hr.hM.2.2.1
  rcases hr.hhp with hld | ⟨hld, hsz, htg, hRC⟩
  · have hP0 : va_P E.1 vwCl ((wC E (ZT.s_ld z 0) ++ wM E z) ++ poolC E z.ps) H := by rw [wC_ld hld, List.append_assoc]; exact hP
    have hD0 : va_D (AA s) ((wC E (ZT.s_ld z 0) ++ wM E z) ++ poolC E z.ps) := by rw [wC_ld hld, List.append_assoc]; exact hD
    refine a8_strange C hl hi hS  ?_
    refine l8_strange_yes (z := z) (pl := []) C hs1 hs4 hr8 hr.hn hr.hth (PsOk_PA hs1 hs4 hr8 hr.hn hr.hps) hr.hFw hP0 hD0 hS hls ⟨by omega, by omega⟩ (fun N2 X2 F2 C2 H1 locs1 hw hP1 hD1 hS1 => ?_)
    rw [List.append_assoc] at hP1 hD1
    exact s9_strange (z := (ZT.s_Ch (ZT.s_Fw (ZT.s_Ex (ZT.s_Nu (ZT.s_ld (ZT.s_sz (ZT.s_tg (ZT.s_cd z (nI (esC (cvS z)).length)) (nI (orC (cvS z) 39))) (nI (hpR (cvS z)).length)) (1)) (N2)) (X2)) (F2)) (C2))) C hl hi (Rel.of (z := (ZT.s_Ch (ZT.s_Fw (ZT.s_Ex (ZT.s_Nu (ZT.s_ld (ZT.s_sz (ZT.s_tg (ZT.s_cd z (nI (esC (cvS z)).length)) (nI (orC (cvS z) 39))) (nI (hpR (cvS z)).length)) (1)) (N2)) (X2)) (F2)) (C2))) hr.hM hr.hps hr.hL hr.hk hr.hti hr.htb hr.hR hr.hlt hr.hla hr.hfs hr.hfd hr.hSz hr.hst hr.hsh hr.hIt hr.hIb hr.hn hr.hth (Or.inr ⟨(show ¬ (1 : Int32) = 0 by decide), rfl, rfl, hw.1⟩) (hw.2) hr.hCv hr.hMn hr.hmid hr.hwr hr.hlf hr.hNm) (At.of hP1 hD1 hS1) hc  kont
  · have hP0 : va_P E.1 vwCl (wC E (ZT.s_tg z (nI (orC (cvS z) 39))) ++ (wM E z ++ poolC E z.ps)) H := by rw [wC_tg htg]; exact hP
    have hD0 : va_D (AA s) (wC E (ZT.s_tg z (nI (orC (cvS z) 39))) ++ (wM E z ++ poolC E z.ps)) := by rw [wC_tg htg]; exact hD
    refine a8_strange C hl hi hS ?_
    refine l8_strange_no (z := z) (orC (cvS z) 39) C hld hr.hn hP0 hD0 hS hls ⟨by omega, by omega⟩ (fun H1 locs1 hP1 hD1 hS1 => ?_)
    rw [wC_tg htg] at hP1 hD1
    exact s9_strange (z := z) C hl hi hr (At.of hP1 hD1 hS1) hc  kont
set_option maxHeartbeats 1000000 in
theorem st_laws {p : Program} {l : Launch} {e : Env} {s : State} {m : MethodId} {below : List Frame} {meth : Method} {c : Code} {b L : Nat} {xs : Nat → Int32} {E : EnvT} {tq : Nat} {H : Heap} {locs : List Loc} {cells slots : Nat} {Q : State → Prop} {ls : Array Slot} {z : ZT} {i : Nat} (C : LC p s m c b L xs E tq) (hl : lv_has ls 4 (lvL b z i)) (hi : i + 5 ≤ L) (hr : Rel z) (ha : At E s z H locs) (hc : cells + 12 ≤ 600000 ∧ slots + 44 ≤ 7302250)
    (kont : ∀ (z2 : ZT) (H1 : Heap) (locs1 : List Loc), z2.g0 = z.g0 → z2.m0 = z.m0 → Rel z2 → At E s z2 H1 locs1 → W p l e room_1 s m #[Value.ref b] below meth c H1 locs1 (cells + 12) (slots + 44) Q (F0 m 954 ls [])) : W p l e room_1 s m #[Value.ref b] below meth c H locs cells slots Q (F0 m 819 ls []) := by
  have hP := ha.hP
  have hD := ha.hD
  have hS := ha.hS
  have hls : ls.size = 4 := hl.1
  have hs1 := hr.hM.1.1
  have hs4 := hr.hM.1.2.1
  have hr8 := hr.hM.1.2.2
  have hU := hr.hM.2.1
  have hV := hr.hM.2.2.1
  generalize hx1 : xs (i + 1) = x1
  generalize hx2 : xs (i + 2) = x2
  generalize hx3 : xs (i + 3) = x3
  by_cases hc1 : (1 ≤ x1 ∧ x1 ≤ 1000) ∧ (1 ≤ x2 ∧ x2 ≤ x1) ∧ (1 ≤ x3 ∧ x3 ≤ 4)
  · obtain ⟨uu, hu1, hu2, rfl⟩ := inR (A := 1) (B := 4) rfl rfl hc1.2.2
    refine a8_laws C hl hi hS hx1 hx2 hx3 ?_
    refine l8_laws_yes (z := z) uu x1 x2 C hc1 hP hD hS hls ⟨by omega, by omega⟩ (fun  H1 locs1  hP1 hD1 hS1 => ?_)
    refine lv_pop C.hx C.hb dL_law_838 rfl ?_
    refine a9_laws C hl hi hS1 hx1 hx2 hx3 ?_
    refine l9_laws_yes (z := z) x1 x2 (nI uu) C hc1 (Nat.le_of_ble_eq_true rfl) (vaP_perm (perm_swap3 _ _ _) hP1) (vaD_perm (perm_swap3 _ _ _) hD1) hS1 hls ⟨by omega, by omega⟩ (fun  H2 locs2  hP2 hD2 hS2 => ?_)
    refine finNI (cells := cells) (slots := slots) C rfl dL_law_858 dL_law_859 (by decide) (by omega) (by omega) ?_
    exact kont (ZT.s_Nm (ZT.s_un (ZT.s_wB (ZT.s_wA z (x1)) (x2)) (uu)) (upd (upd (upd z.Nm 0 x1) 1 x2) 2 (nI uu))) H2 locs2 rfl rfl (Rel.of (z := (ZT.s_Nm (ZT.s_un (ZT.s_wB (ZT.s_wA z (x1)) (x2)) (uu)) (upd (upd (upd z.Nm 0 x1) 1 x2) 2 (nI uu)))) hr.hM hr.hps hr.hL hr.hk hr.hti hr.htb hr.hR hr.hlt hr.hla hr.hfs hr.hfd hr.hSz hr.hst hr.hsh hr.hIt hr.hIb hr.hn hr.hth hr.hhp hr.hFw hr.hCv hr.hMn hr.hmid hr.hwr hr.hlf (And.intro rfl (And.intro rfl (And.intro rfl (And.intro hu1 hu2))))) (At.of (vaP_perm (perm_swap3 _ _ _) hP2) (vaD_perm (perm_swap3 _ _ _) hD2) hS2)
  · skip
    refine a8_laws C hl hi hS hx1 hx2 hx3 ?_
    refine l8_laws_no (z := z) x1 x2 x3 C hc1 hP hD hS hls ⟨by omega, by omega⟩ (fun  H1 locs1  hP1 hD1 hS1 => ?_)
    refine lv_pop C.hx C.hb dL_law_838 rfl ?_
    refine a9_laws C hl hi hS1 hx1 hx2 hx3 ?_
    refine l9_laws_no (z := z) x1 x2 x3 C hc1 (Nat.le_of_ble_eq_true rfl) (vaP_perm (perm_swap3 _ _ _) hP1) (vaD_perm (perm_swap3 _ _ _) hD1) hS1 hls ⟨by omega, by omega⟩ (fun  H2 locs2  hP2 hD2 hS2 => ?_)
    refine finNI (cells := cells) (slots := slots) C rfl dL_law_858 dL_law_859 (by decide) (by omega) (by omega) ?_
    exact kont z H2 locs2 rfl rfl hr (At.of (vaP_perm (perm_swap3 _ _ _) hP2) (vaD_perm (perm_swap3 _ _ _) hD2) hS2)
set_option maxHeartbeats 1000000 in
theorem st_reading {p : Program} {l : Launch} {e : Env} {s : State} {m : MethodId} {below : List Frame} {meth : Method} {c : Code} {b L : Nat} {xs : Nat → Int32} {E : EnvT} {tq : Nat} {H : Heap} {locs : List Loc} {cells slots : Nat} {Q : State → Prop} {ls : Array Slot} {z : ZT} {i : Nat} (C : LC p s m c b L xs E tq) (hl : lv_has ls 4 (lvL b z i)) (hi : i + 5 ≤ L) (hr : Rel z) (ha : At E s z H locs) (hc : cells + 12 ≤ 600000 ∧ slots + 44 ≤ 7302250)
    (kont : ∀ (z2 : ZT) (H1 : Heap) (locs1 : List Loc), z2.g0 = z.g0 → z2.m0 = z.m0 → Rel z2 → At E s z2 H1 locs1 → W p l e room_1 s m #[Value.ref b] below meth c H1 locs1 (cells + 12) (slots + 44) Q (F0 m 954 ls [])) : W p l e room_1 s m #[Value.ref b] below meth c H locs cells slots Q (F0 m 862 ls []) := by
  have hP := ha.hP
  have hD := ha.hD
  have hS := ha.hS
  have hls : ls.size = 4 := hl.1
  have hs1 := hr.hM.1.1
  have hs4 := hr.hM.1.2.1
  have hr8 := hr.hM.1.2.2
  have hU := hr.hM.2.1
  have hV := hr.hM.2.2.1
  generalize hx1 : xs (i + 1) = x1
  generalize hx2 : xs (i + 2) = x2
  obtain ⟨n1, n2, n3, n4, n5⟩ := hr.hNm
  by_cases hc1 : (0 ≤ x1 ∧ x1 ≤ 3) ∧ (0 ≤ x2 ∧ x2 ≤ 1000000)
  · obtain ⟨h1, h2⟩ := hc1
    obtain ⟨q, hq, rfl⟩ := inK h1
    have hm := hr.hMn q hq
    by_cases h5 : z.Mn q = 200
    · skip
      refine a8_reading C hl hi hS hx1 hx2 ?_
      refine l8_reading_full (z := z) q x2 C hq (hr.hfd q hq) h2 (by omega) hm hP hD hS hls ⟨by omega, by omega⟩ (fun  H1 locs1  hP1 hD1 hS1 => ?_)
      refine lv_pop C.hx C.hb dL_law_876 rfl ?_
      refine a9_reading C hl hi hS1 hx1 hx2 ?_
      refine l9_reading_full (z := z) q x2 C hq h2 h5 (Nat.le_of_ble_eq_true rfl) (vaP_perm (perm_swap3 _ _ _) hP1) (vaD_perm (perm_swap3 _ _ _) hD1) hS1 hls ⟨by omega, by omega⟩ (fun  H2 locs2  hP2 hD2 hS2 => ?_)
      refine finNI (cells := cells) (slots := slots) C rfl dL_law_891 dL_law_892 (by decide) (by omega) (by omega) ?_
      exact kont z H2 locs2 rfl rfl hr (At.of (vaP_perm (perm_swap3 _ _ _) hP2) (vaD_perm (perm_swap3 _ _ _) hD2) hS2)
    · skip
      refine a8_reading C hl hi hS hx1 hx2 ?_
      refine l8_reading_yes (z := z) q x2 C hq (hr.hfd q hq) h2 (by omega) n4 n5 hP hD hS hls ⟨by omega, by omega⟩ (fun  H1 locs1  hP1 hD1 hS1 => ?_)
      refine lv_pop C.hx C.hb dL_law_876 rfl ?_
      refine a9_reading C hl hi hS1 hx1 hx2 ?_
      refine l9_reading_yes (z := z) q x2 C hq h2 (by omega) n3 n4 n5 (Nat.le_of_ble_eq_true rfl) (vaP_perm (perm_swap3 _ _ _) hP1) (vaD_perm (perm_swap3 _ _ _) hD1) hS1 hls ⟨by omega, by omega⟩ (fun  H2 locs2  hP2 hD2 hS2 => ?_)
      refine finNI (cells := cells) (slots := slots) C rfl dL_law_891 dL_law_892 (by decide) (by omega) (by omega) ?_
      exact kont (ZT.s_Wd (ZT.s_Rd (ZT.s_lf (ZT.s_wr (ZT.s_mid (ZT.s_Mn z (updN z.Mn q (z.Mn q + 1))) (va_up z.mid q (if z.Mn q + 1 = 5 then fMid (upd (z.lf q) (z.Mn q) x2) else z.mid q))) (va_up z.wr q (fJud (upd (z.lf q) (z.Mn q) x2) (z.Mn q + 1) z.un z.wA z.wB (if z.Mn q + 1 = 5 then fMid (upd (z.lf q) (z.Mn q) x2) else z.mid q) (z.wr q)))) (va_up z.lf q (upd (z.lf q) (z.Mn q) x2))) (upd z.Rd (200 * q + z.Mn q) x2)) (upd z.Wd q (fJm (fun j => (upd z.Rd (200 * q + z.Mn q) x2) (200 * q + j)) (z.Mn q + 1) z.un (z.Nm 0) (z.Nm 1) (fMd (fun j => (upd z.Rd (200 * q + z.Mn q) x2) (200 * q + j))) (z.Wd q) x2))) H2 locs2 rfl rfl (Rel.of (z := (ZT.s_Wd (ZT.s_Rd (ZT.s_lf (ZT.s_wr (ZT.s_mid (ZT.s_Mn z (updN z.Mn q (z.Mn q + 1))) (va_up z.mid q (if z.Mn q + 1 = 5 then fMid (upd (z.lf q) (z.Mn q) x2) else z.mid q))) (va_up z.wr q (fJud (upd (z.lf q) (z.Mn q) x2) (z.Mn q + 1) z.un z.wA z.wB (if z.Mn q + 1 = 5 then fMid (upd (z.lf q) (z.Mn q) x2) else z.mid q) (z.wr q)))) (va_up z.lf q (upd (z.lf q) (z.Mn q) x2))) (upd z.Rd (200 * q + z.Mn q) x2)) (upd z.Wd q (fJm (fun j => (upd z.Rd (200 * q + z.Mn q) x2) (200 * q + j)) (z.Mn q + 1) z.un (z.Nm 0) (z.Nm 1) (fMd (fun j => (upd z.Rd (200 * q + z.Mn q) x2) (200 * q + j))) (z.Wd q) x2)))) hr.hM hr.hps hr.hL hr.hk hr.hti hr.htb hr.hR hr.hlt hr.hla hr.hfs hr.hfd hr.hSz hr.hst hr.hsh hr.hIt hr.hIb hr.hn hr.hth hr.hhp hr.hFw hr.hCv (rd_Mn hr.hMn (by omega)) (rd_mid hr.hmid hr.hlf hq (by omega) hr.hMn) (rd_wr hr.hwr hr.hmid hr.hlf hq (by omega) n1 n2 n5) (rd_lf hr.hlf (by omega)) hr.hNm) (At.of (vaP_perm (perm_swap3 _ _ _) hP2) (vaD_perm (perm_swap3 _ _ _) hD2) hS2)
  · skip
    refine a8_reading C hl hi hS hx1 hx2 ?_
    refine l8_reading_no (z := z) x1 x2 C hc1 hP hD hS hls ⟨by omega, by omega⟩ (fun  H1 locs1  hP1 hD1 hS1 => ?_)
    refine lv_pop C.hx C.hb dL_law_876 rfl ?_
    refine a9_reading C hl hi hS1 hx1 hx2 ?_
    refine l9_reading_no (z := z) x1 x2 C hc1 (Nat.le_of_ble_eq_true rfl) (vaP_perm (perm_swap3 _ _ _) hP1) (vaD_perm (perm_swap3 _ _ _) hD1) hS1 hls ⟨by omega, by omega⟩ (fun  H2 locs2  hP2 hD2 hS2 => ?_)
    refine finNI (cells := cells) (slots := slots) C rfl dL_law_891 dL_law_892 (by decide) (by omega) (by omega) ?_
    exact kont z H2 locs2 rfl rfl hr (At.of (vaP_perm (perm_swap3 _ _ _) hP2) (vaD_perm (perm_swap3 _ _ _) hD2) hS2)
set_option maxHeartbeats 1000000 in
theorem st_baseline {p : Program} {l : Launch} {e : Env} {s : State} {m : MethodId} {below : List Frame} {meth : Method} {c : Code} {b L : Nat} {xs : Nat → Int32} {E : EnvT} {tq : Nat} {H : Heap} {locs : List Loc} {cells slots : Nat} {Q : State → Prop} {ls : Array Slot} {z : ZT} {i : Nat} (C : LC p s m c b L xs E tq) (hl : lv_has ls 4 (lvL b z i)) (hi : i + 5 ≤ L) (hr : Rel z) (ha : At E s z H locs) (hc : cells + 12 ≤ 600000 ∧ slots + 44 ≤ 7302250)
    (kont : ∀ (z2 : ZT) (H1 : Heap) (locs1 : List Loc), z2.g0 = z.g0 → z2.m0 = z.m0 → Rel z2 → At E s z2 H1 locs1 → W p l e room_1 s m #[Value.ref b] below meth c H1 locs1 (cells + 12) (slots + 44) Q (F0 m 954 ls [])) : W p l e room_1 s m #[Value.ref b] below meth c H locs cells slots Q (F0 m 895 ls []) := by
  have hP := ha.hP
  have hD := ha.hD
  have hS := ha.hS
  have hls : ls.size = 4 := hl.1
  have hs1 := hr.hM.1.1
  have hs4 := hr.hM.1.2.1
  have hr8 := hr.hM.1.2.2
  have hU := hr.hM.2.1
  have hV := hr.hM.2.2.1
  generalize hx1 : xs (i + 1) = x1
  by_cases hc1 : 0 ≤ x1 ∧ x1 ≤ 3
  · obtain ⟨q, hq, rfl⟩ := inK hc1
    refine a8_baseline C hl hi hS hx1 ?_
    refine l8_baseline_yes (z := z) q C hq (hr.hfd q hq) (hr.hMn q hq) hP   hls ⟨by omega, by omega⟩ ?_
    refine lv_pop C.hx C.hb dL_law_904 rfl ?_
    refine a9_baseline C hl hi hS hx1 ?_
    refine l9_baseline_yes (z := z) q C hq (hr.hMn q hq) (Nat.le_of_ble_eq_true rfl) (vaP_perm (perm_swap3 _ _ _) hP) hls ⟨by omega, by omega⟩ ?_
    refine finNI (cells := cells) (slots := slots) C rfl dL_law_914 dL_law_915 (by decide) (by omega) (by omega) ?_
    exact kont z H locs rfl rfl hr (At.of hP hD hS)
  · skip
    refine a8_baseline C hl hi hS hx1 ?_
    refine l8_baseline_no (z := z) x1 C hc1 hP   hls ⟨by omega, by omega⟩ ?_
    refine lv_pop C.hx C.hb dL_law_904 rfl ?_
    refine a9_baseline C hl hi hS hx1 ?_
    refine l9_baseline_no (z := z) x1 C hc1 (Nat.le_of_ble_eq_true rfl) (vaP_perm (perm_swap3 _ _ _) hP) hls ⟨by omega, by omega⟩ ?_
    refine finNI (cells := cells) (slots := slots) C rfl dL_law_914 dL_law_915 (by decide) (by omega) (by omega) ?_
    exact kont z H locs rfl rfl hr (At.of hP hD hS)
set_option maxHeartbeats 1000000 in
theorem st_warned {p : Program} {l : Launch} {e : Env} {s : State} {m : MethodId} {below : List Frame} {meth : Method} {c : Code} {b L : Nat} {xs : Nat → Int32} {E : EnvT} {tq : Nat} {H : Heap} {locs : List Loc} {cells slots : Nat} {Q : State → Prop} {ls : Array Slot} {z : ZT} {i : Nat} (C : LC p s m c b L xs E tq) (hl : lv_has ls 4 (lvL b z i)) (hi : i + 5 ≤ L) (hr : Rel z) (ha : At E s z H locs) (hc : cells + 12 ≤ 600000 ∧ slots + 44 ≤ 7302250)
    (kont : ∀ (z2 : ZT) (H1 : Heap) (locs1 : List Loc), z2.g0 = z.g0 → z2.m0 = z.m0 → Rel z2 → At E s z2 H1 locs1 → W p l e room_1 s m #[Value.ref b] below meth c H1 locs1 (cells + 12) (slots + 44) Q (F0 m 954 ls [])) : W p l e room_1 s m #[Value.ref b] below meth c H locs cells slots Q (F0 m 918 ls []) := by
  have hP := ha.hP
  have hD := ha.hD
  have hS := ha.hS
  have hls : ls.size = 4 := hl.1
  have hs1 := hr.hM.1.1
  have hs4 := hr.hM.1.2.1
  have hr8 := hr.hM.1.2.2
  have hU := hr.hM.2.1
  have hV := hr.hM.2.2.1
  generalize hx1 : xs (i + 1) = x1
  by_cases hc1 : 0 ≤ x1 ∧ x1 ≤ 3
  · obtain ⟨q, hq, rfl⟩ := inK hc1
    refine a8_warned C hl hi hS hx1 ?_
    refine l8_warned_yes (z := z) q C hq (hr.hfd q hq) hP   hls ⟨by omega, by omega⟩ ?_
    refine lv_pop C.hx C.hb dL_law_927 rfl ?_
    refine a9_warned C hl hi hS hx1 ?_
    refine l9_warned_yes (z := z) q C hq (Nat.le_of_ble_eq_true rfl) (vaP_perm (perm_swap3 _ _ _) hP) hls ⟨by omega, by omega⟩ ?_
    refine finNI (cells := cells) (slots := slots) C rfl dL_law_937 dL_law_938 (by decide) (by omega) (by omega) ?_
    exact kont z H locs rfl rfl hr (At.of hP hD hS)
  · skip
    refine a8_warned C hl hi hS hx1 ?_
    refine l8_warned_no (z := z) x1 C hc1 hP   hls ⟨by omega, by omega⟩ ?_
    refine lv_pop C.hx C.hb dL_law_927 rfl ?_
    refine a9_warned C hl hi hS hx1 ?_
    refine l9_warned_no (z := z) x1 C hc1 (Nat.le_of_ble_eq_true rfl) (vaP_perm (perm_swap3 _ _ _) hP) hls ⟨by omega, by omega⟩ ?_
    refine finNI (cells := cells) (slots := slots) C rfl dL_law_937 dL_law_938 (by decide) (by omega) (by omega) ?_
    exact kont z H locs rfl rfl hr (At.of hP hD hS)
set_option maxHeartbeats 1000000 in
theorem st_repair {p : Program} {l : Launch} {e : Env} {s : State} {m : MethodId} {below : List Frame} {meth : Method} {c : Code} {b L : Nat} {xs : Nat → Int32} {E : EnvT} {tq : Nat} {H : Heap} {locs : List Loc} {cells slots : Nat} {Q : State → Prop} {ls : Array Slot} {z : ZT} {i : Nat} (C : LC p s m c b L xs E tq) (hl : lv_has ls 4 (lvL b z i)) (hi : i + 5 ≤ L) (hr : Rel z) (ha : At E s z H locs) (hc : cells + 12 ≤ 600000 ∧ slots + 44 ≤ 7302250)
    (kont : ∀ (z2 : ZT) (H1 : Heap) (locs1 : List Loc), z2.g0 = z.g0 → z2.m0 = z.m0 → Rel z2 → At E s z2 H1 locs1 → W p l e room_1 s m #[Value.ref b] below meth c H1 locs1 (cells + 12) (slots + 44) Q (F0 m 954 ls [])) : W p l e room_1 s m #[Value.ref b] below meth c H locs cells slots Q (F0 m 941 ls []) := by
  have hP := ha.hP
  have hD := ha.hD
  have hS := ha.hS
  have hls : ls.size = 4 := hl.1
  have hs1 := hr.hM.1.1
  have hs4 := hr.hM.1.2.1
  have hr8 := hr.hM.1.2.2
  have hU := hr.hM.2.1
  have hV := hr.hM.2.2.1
  refine a8_repair C hl hi hS  ?_
  refine l8_repair (z := z)  C (hr.hfd 0 (by omega)) (hr.hfd 1 (by omega)) (hr.hfd 2 (by omega)) (hr.hfd 3 (by omega)) hP hD hS hls ⟨by omega, by omega⟩ (fun  H1 locs1  hP1 hD1 hS1 => ?_)
  refine lv_pop C.hx C.hb dL_law_945 rfl ?_
  refine a9_repair C hl hi hS1  ?_
  refine l9_repair (z := z)  C  (Nat.le_of_ble_eq_true rfl) (vaP_perm (perm_swap3 _ _ _) hP1) (vaD_perm (perm_swap3 _ _ _) hD1) hS1 hls ⟨by omega, by omega⟩ (fun  H2 locs2  hP2 hD2 hS2 => ?_)
  refine finNI (cells := cells) (slots := slots) C rfl dL_law_950 dL_law_951 (by decide) (by omega) (by omega) ?_
  exact kont (ZT.s_Wd (ZT.s_wr (ZT.s_Mn z (flF (fun _ => 0) 4 z.Mn)) (flF (fun _ => (0 : Int32)) 4 z.wr)) (flF (fun _ => (0 : Int32)) 4 z.Wd)) H2 locs2 rfl rfl (Rel.of (z := (ZT.s_Wd (ZT.s_wr (ZT.s_Mn z (flF (fun _ => 0) 4 z.Mn)) (flF (fun _ => (0 : Int32)) 4 z.wr)) (flF (fun _ => (0 : Int32)) 4 z.Wd))) hr.hM hr.hps hr.hL hr.hk hr.hti hr.htb hr.hR hr.hlt hr.hla hr.hfs hr.hfd hr.hSz hr.hst hr.hsh hr.hIt hr.hIb hr.hn hr.hth hr.hhp hr.hFw hr.hCv (fun q hq => Nat.le_trans (Nat.le_of_eq (if_pos hq)) (Nat.zero_le _)) (fun q hq h5 => absurd (Nat.le_trans h5 (Nat.le_of_eq (if_pos hq))) (by omega)) (fun q hq => ⟨(if_pos hq).trans (if_pos hq).symm, Or.inl (if_pos hq)⟩) hr.hlf hr.hNm) (At.of (vaP_perm (perm_swap3 _ _ _) hP2) (vaD_perm (perm_swap3 _ _ _) hD2) hS2)
