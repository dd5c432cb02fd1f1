/-! the model: tones -/
def byM (sh : Nat) (Sm Gr : Nat → Nat) (k : Nat) : Nat := if kdN sh k ≤ 1 then 1 else if kdN sh k = 5 then 2 * Sm (rgN sh k) * Gr (rgN sh k) else 2 * Gr (rgN sh k)
def t0M (sh : Nat) (Ba Sm Gr : Nat → Nat) (k : Nat) : Nat := if kdN sh k = 2 then Ba (rgN sh k) * (Gr (rgN sh k) - Sm (rgN sh k)) else if kdN sh k = 3 then Ba (rgN sh k) * (Gr (rgN sh k) + Sm (rgN sh k)) else if kdN sh k = 4 then Gr (rgN sh k) - Sm (rgN sh k) else Gr (rgN sh k) * Gr (rgN sh k) - Sm (rgN sh k) * Sm (rgN sh k)
def tmM (sh : Nat) (Te Si Ba Sm Gr : Nat → Nat) (k i : Nat) : Nat := if kdN sh k = 0 then i + 1 else if kdN sh k = 1 then (i + 1) * Te (seN sh Si k) else if i = 1 then 2 * t0M sh Ba Sm Gr k else if i = 2 then t0M sh Ba Sm Gr k - byM sh Sm Gr k else t0M sh Ba Sm Gr k
/-- tone i of part k, above and below -/
def toA (sh : Nat) (U V Te Si Ba Sm Gr : Nat → Nat) (k i : Nat) : Nat := tA (U (seN sh Si k) * tmM sh Te Si Ba Sm Gr k i) (V (seN sh Si k) * byM sh Sm Gr k)
def toB (sh : Nat) (U V Te Si Ba Sm Gr : Nat → Nat) (k i : Nat) : Nat := tB (U (seN sh Si k) * tmM sh Te Si Ba Sm Gr k i) (V (seN sh Si k) * byM sh Sm Gr k)

set_option maxHeartbeats 1000000 in
set_option maxRecDepth 100000 in
theorem c_X9_findTone_0_0 (l : Launch) (E : EnvT) (sz : Nat) (m0 : Nat) (sh : Nat) (rO : Nat) (rU : Nat) (rT : Nat) (rg : Nat) (rS : Nat) (rB : Nat) (rP : Nat) (rG : Nat) (ab0 : Int64) (be0 : Int64) (mk : Int32) (rM : Nat) (md : Int32) (rN : Nat) (rL : Nat) (rZ : Nat) (rE : Nat) (rI : Nat) (hc : Int32) (rA : Nat) (rX : Nat) (lnn : Int32) (rV : Nat) (rW : Nat) (sl : Int32) (rC : Nat) (rF : Nat) (rQ : Nat) (rK : Nat) (rR : Nat) (rD : Nat) (U : Nat → Nat) (V : Nat → Nat) (Te : Nat → Nat) (Si : Nat → Nat) (Ba : Nat → Nat) (Sm : Nat → Nat) (Gr : Nat → Nat) (k : Nat) (hs1 : 1 ≤ sh) (hs4 : sh ≤ 4) (hr8 : rg ≤ 8) (hk : k < 2 * sh - 1 + 4 * rg) (hse : seN sh Si k < 4) (hU1 : 0 < U (seN sh Si k)) (hU2 : U (seN sh Si k) ≤ 8000000) (hV1 : 0 < V (seN sh Si k)) (hV2 : V (seN sh Si k) ≤ 8000000) (hkd : kdN sh k = 0) : Met l yX9_findTone wsX9_findTone ({ frames := 2, cells := 0, slots := 0, locals := 42 }) (va_Pc [.ref m0, .int (nI k), .int 0] (PW E [(m0, .inr (9, [.int (nI sh), .ref rO, .ref rU, .ref rT, .int (nI rg), .ref rS, .ref rB, .ref rP, .ref rG, .long ab0, .long be0, .int mk, .ref rM, .int md, .ref rN, .ref rL, .ref rZ, .ref rE, .ref rI, .int hc, .ref rA, .ref rX, .int lnn, .ref rV, .ref rW, .int sl, .ref rC, .ref rF, .ref rQ, .ref rK, .ref rR, .ref rD])), (rO, .inl (E.2 2, 4, .inr (.inl (lA U)))), (rU, .inl (E.2 2, 4, .inr (.inl (lA V)))), (rT, .inl (E.2 1, 4, .inl (nA Te))), (rS, .inl (E.2 1, 8, .inl (nA Si))), (rB, .inl (E.2 1, 8, .inl (nA Ba))), (rP, .inl (E.2 1, 8, .inl (nA Sm))), (rG, .inl (E.2 1, 8, .inl (nA Gr)))] sz)) (va_Qv (fun (uu : Unit) => True) (fun (uu : Unit) t => BW E (va_A [(m0, .inr (9, [.int (nI sh), .ref rO, .ref rU, .ref rT, .int (nI rg), .ref rS, .ref rB, .ref rP, .ref rG, .long ab0, .long be0, .int mk, .ref rM, .int md, .ref rN, .ref rL, .ref rZ, .ref rE, .ref rI, .int hc, .ref rA, .ref rX, .int lnn, .ref rV, .ref rW, .int sl, .ref rC, .ref rF, .ref rQ, .ref rK, .ref rR, .ref rD])), (rO, .inl (E.2 2, 4, .inr (.inl (lA U)))), (rU, .inl (E.2 2, 4, .inr (.inl (lA V)))), (rT, .inl (E.2 1, 4, .inl (nA Te))), (rS, .inl (E.2 1, 8, .inl (nA Si))), (rB, .inl (E.2 1, 8, .inl (nA Ba))), (rP, .inl (E.2 1, 8, .inl (nA Sm))), (rG, .inl (E.2 1, 8, .inl (nA Gr)))] sz) [(m0, .inr (9, [.int (nI sh), .ref rO, .ref rU, .ref rT, .int (nI rg), .ref rS, .ref rB, .ref rP, .ref rG, .long (lN (tA (U (seN sh Si k) * (1)) (V (seN sh Si k) * (1)))), .long (lN (tB (U (seN sh Si k) * (1)) (V (seN sh Si k) * (1)))), .int mk, .ref rM, .int md, .ref rN, .ref rL, .ref rZ, .ref rE, .ref rI, .int hc, .ref rA, .ref rX, .int lnn, .ref rV, .ref rW, .int sl, .ref rC, .ref rF, .ref rQ, .ref rK, .ref rR, .ref rD])), (rO, .inl (E.2 2, 4, .inr (.inl (lA U)))), (rU, .inl (E.2 2, 4, .inr (.inl (lA V)))), (rT, .inl (E.2 1, 4, .inl (nA Te))), (rS, .inl (E.2 1, 8, .inl (nA Si))), (rB, .inl (E.2 1, 8, .inl (nA Ba))), (rP, .inl (E.2 1, 8, .inl (nA Sm))), (rG, .inl (E.2 1, 8, .inl (nA Gr)))] t) (va_A [(m0, .inr (9, [.int (nI sh), .ref rO, .ref rU, .ref rT, .int (nI rg), .ref rS, .ref rB, .ref rP, .ref rG, .long ab0, .long be0, .int mk, .ref rM, .int md, .ref rN, .ref rL, .ref rZ, .ref rE, .ref rI, .int hc, .ref rA, .ref rX, .int lnn, .ref rV, .ref rW, .int sl, .ref rC, .ref rF, .ref rQ, .ref rK, .ref rR, .ref rD])), (rO, .inl (E.2 2, 4, .inr (.inl (lA U)))), (rU, .inl (E.2 2, 4, .inr (.inl (lA V)))), (rT, .inl (E.2 1, 4, .inl (nA Te))), (rS, .inl (E.2 1, 8, .inl (nA Si))), (rB, .inl (E.2 1, 8, .inl (nA Ba))), (rP, .inl (E.2 1, 8, .inl (nA Sm))), (rG, .inl (E.2 1, 8, .inl (nA Gr)))] sz)) 0 0 (va_A [(m0, .inr (9, [.int (nI sh), .ref rO, .ref rU, .ref rT, .int (nI rg), .ref rS, .ref rB, .ref rP, .ref rG, .long ab0, .long be0, .int mk, .ref rM, .int md, .ref rN, .ref rL, .ref rZ, .ref rE, .ref rI, .int hc, .ref rA, .ref rX, .int lnn, .ref rV, .ref rW, .int sl, .ref rC, .ref rF, .ref rQ, .ref rK, .ref rR, .ref rD])), (rO, .inl (E.2 2, 4, .inr (.inl (lA U)))), (rU, .inl (E.2 2, 4, .inr (.inl (lA V)))), (rT, .inl (E.2 1, 4, .inl (nA Te))), (rS, .inl (E.2 1, 8, .inl (nA Si))), (rB, .inl (E.2 1, 8, .inl (nA Ba))), (rP, .inl (E.2 1, 8, .inl (nA Sm))), (rG, .inl (E.2 1, 8, .inl (nA Gr)))] sz) := by
  refine Met.ofW (cc := cX9_findTone) (maxL := 14) (ret := none) (by decide +kernel) rfl ?_
  intro p e s m args below meth c s₁ B hml hv
  obtain ⟨rfl, hsz, hP, hE, hD0⟩ := hv
  have hx := B.exec
  have hb := B.bytes
  have hr := B.returns
  have hts := atoms_spec (ws := wsX9_findTone) B.pre
  have hown : s.vm.findClass RX9 = some m.cls := findClass_of_methodNamed B.named
  have hlocks := B.notSynchronized
  have hK := hE.1
  have hNN := hE.2.1
  have hinX9 : ∀ w ∈ wsX90, w ∈ wsX9_findTone := fun w h => List.mem_cons_of_mem _ (List.mem_append_right _ h)
  subst hsz
  have hD := hD0.self (sz := s.heap.size)
  generalize hAe : va_A [(m0, .inr (9, [.int (nI sh), .ref rO, .ref rU, .ref rT, .int (nI rg), .ref rS, .ref rB, .ref rP, .ref rG, .long ab0, .long be0, .int mk, .ref rM, .int md, .ref rN, .ref rL, .ref rZ, .ref rE, .ref rI, .int hc, .ref rA, .ref rX, .int lnn, .ref rV, .ref rW, .int sl, .ref rC, .ref rF, .ref rQ, .ref rK, .ref rR, .ref rD])), (rO, .inl (E.2 2, 4, .inr (.inl (lA U)))), (rU, .inl (E.2 2, 4, .inr (.inl (lA V)))), (rT, .inl (E.2 1, 4, .inl (nA Te))), (rS, .inl (E.2 1, 8, .inl (nA Si))), (rB, .inl (E.2 1, 8, .inl (nA Ba))), (rP, .inl (E.2 1, 8, .inl (nA Sm))), (rG, .inl (E.2 1, 8, .inl (nA Gr)))] s.heap.size = A at hD ⊢
  have hA : ∀ q : Nat, s.heap.size ≤ q → A q := fun q h => by rw [← hAe]; exact Or.inr h
  have hS : va_S A s.heap s.heap [] := va_S.rf
  have hl := lv_entry ([.ref m0, .int (nI k), .int 0]) (n := 14) (Nat.le_of_ble_eq_true rfl)
  rw [lg_entry_eq]
  generalize (lg_sl ([.ref m0, .int (nI k), .int 0]) ++ List.replicate (14 - (lg_sl ([.ref m0, .int (nI k), .int 0])).length) Slot.unset).toArray = ls at hl ⊢
  have hl : lv_has ls 14 [(0, .ref m0), (1, .int (nI k)), (2, .int 0)] := hl
  refine lv_aload_n hx hb dX9_findTone_0 rfl (lv_at hl 0 rfl) ?_
  refine lv_iload_n hx hb dX9_findTone_1 rfl (lv_at hl 1 rfl) ?_
  refine rVi hE ⟨hx, hb, hml, hown, hts⟩ (c_X9_kindOf l E m0 sh rO rU rT rg rS rB rP rG ab0 be0 mk rM md rN rL rZ rE rI hc rA rX lnn rV rW sl rC rF rQ rK rR rD k (hs1) (hs4) (hr8) (hk)) (cwV 1 hts gX9_findTone_X9_kindOf rfl rfl rfl (by decide +kernel) ⟨Nat.le_of_ble_eq_true rfl, Nat.le_of_ble_eq_true rfl⟩) (hP.sub [0] rfl) 0 9 rfl rfl rfl hl.1 rfl (Nat.le_of_ble_eq_true rfl) dX9_findTone_2 ⟨(Nat.zero_le _), (Nat.zero_le _)⟩ ?_
  rw [show (nI (kdN sh k) : Int32) = 0 from by rw [hkd]; rfl]
  refine lv_istore_n (lv' := [(3, .int 0), (0, .ref m0), (1, .int (nI k)), (2, .int 0)]) hx hb dX9_findTone_5 rfl hl (by decide) rfl (fun ls hl => ?_)
  refine lv_aload_n hx hb dX9_findTone_6 rfl (lv_at hl 1 rfl) ?_
  refine lv_iload_n hx hb dX9_findTone_7 rfl (lv_at hl 2 rfl) ?_
  refine rVi hE ⟨hx, hb, hml, hown, hts⟩ (c_X9_shaftOf l E m0 sh rO rU rT rg rS rB rP rG ab0 be0 mk rM md rN rL rZ rE rI hc rA rX lnn rV rW sl rC rF rQ rK rR rD Si k (hs1) (hs4) (hr8) (hk)) (cwV 1 hts gX9_findTone_X9_shaftOf rfl rfl rfl (by decide +kernel) ⟨Nat.le_of_ble_eq_true rfl, Nat.le_of_ble_eq_true rfl⟩) (hP.sub [0, 4] rfl) 0 9 rfl rfl rfl hl.1 rfl (Nat.le_of_ble_eq_true rfl) dX9_findTone_8 ⟨(Nat.zero_le _), (Nat.zero_le _)⟩ ?_
  refine lv_istore (lv' := [(4, .int (nI (seN sh Si k))), (3, .int 0), (0, .ref m0), (1, .int (nI k)), (2, .int 0)]) hx hb dX9_findTone_11 hl (by decide) rfl (fun ls hl => ?_)
  refine lv_iload_n hx hb dX9_findTone_13 rfl (lv_at hl 4 rfl) ?_
  refine lv_i2l (v := 0) hx hb dX9_findTone_14 (by decide) ?_
  refine lv_lconst (v := 1) hx hb dX9_findTone_15 (by decide) ?_
  refine lv_ladd hx hb dX9_findTone_16 ?_
  rw [show ((0 : Int64) + (1 : Int64) : Int64) = lN (1) from lN_add 0 1]
  refine lv_lstore (lv' := [(5, .long (lN (1))), (4, .int (nI (seN sh Si k))), (3, .int 0), (0, .ref m0), (1, .int (nI k)), (2, .int 0)]) hx hb dX9_findTone_17 hl (by decide) rfl (fun ls hl => ?_)
  refine lv_lconst (v := 1) hx hb dX9_findTone_19 (by decide) ?_
  refine lv_lstore (lv' := [(7, .long 1), (5, .long (lN (1))), (4, .int (nI (seN sh Si k))), (3, .int 0), (0, .ref m0), (1, .int (nI k)), (2, .int 0)]) hx hb dX9_findTone_20 hl (by decide) rfl (fun ls hl => ?_)
  refine lv_iload_n hx hb dX9_findTone_22 rfl (lv_at hl 3 rfl) ?_
  refine lv_iconst (v := 1) hx hb dX9_findTone_23 (by decide) ?_
  refine lv_icmp_ne (tgt := 45) hx hb dX9_findTone_24 (by decide) (fun c_24 => ?_) (fun c_24 => by exfalso; revert c_24; decide)
  refine lv_iload_n hx hb dX9_findTone_45 rfl (lv_at hl 3 rfl) ?_
  refine lv_iconst (v := 1) hx hb dX9_findTone_46 (by decide) ?_
  refine lv_icmp_le (tgt := 203) hx hb dX9_findTone_47 (by decide) (fun c_47 => ?_) (fun c_47 => by exfalso; revert c_47; decide)
  refine lv_aload_n hx hb dX9_findTone_203 rfl (lv_at hl 4 rfl) ?_
  refine lv_aload_n hx hb dX9_findTone_204 rfl (lv_at hl 4 rfl) ?_
  refine va_get (D := E.1) (ci := 9) (v := .ref rO) (C := RX9) (T := TX9) (N := 32) hx hb hts hinX9 hown hK hP 0 rfl rfl 1 (by decide) (hts (.fieldLink RX9 13 "WornRingsModel" "over" "[J") (by decide +kernel)) (fun _ h9 => h9) rfl dX9_findTone_205 ?_
  refine lv_iload hx hb dX9_findTone_208 (lv_at hl 2 rfl) ?_
  refine va_lald hx hb hK hP 1 2 rfl rfl (vp_in_nI (by omega) (by omega)) dX9_findTone_210 ?_
  rw [nI_clamp (n := seN sh Si k) (by omega)]
  refine W.eq (g2 := F0 m 211 ls [.long (lN (U (seN sh Si k))), .ref m0]) rfl ?_
  refine lv_lload hx hb dX9_findTone_211 (lv_at hl 1 rfl) ?_
  refine lv_lmul hx hb dX9_findTone_213 ?_
  rw [show ((lN (U (seN sh Si k))) * lN (1) : Int64) = lN ((U (seN sh Si k)) * 1) from lN_mul (U (seN sh Si k)) 1]
  refine lv_aload_n hx hb dX9_findTone_214 rfl (lv_at hl 4 rfl) ?_
  refine va_get (D := E.1) (ci := 9) (v := .ref rU) (C := RX9) (T := TX9) (N := 32) hx hb hts hinX9 hown hK hP 0 rfl rfl 2 (by decide) (hts (.fieldLink RX9 17 "WornRingsModel" "under" "[J") (by decide +kernel)) (fun _ h9 => h9) rfl dX9_findTone_215 ?_
  refine lv_iload hx hb dX9_findTone_218 (lv_at hl 2 rfl) ?_
  refine va_lald hx hb hK hP 2 2 rfl rfl (vp_in_nI (by omega) (by omega)) dX9_findTone_220 ?_
  rw [nI_clamp (n := seN sh Si k) (by omega)]
  refine W.eq (g2 := F0 m 221 ls [.long (lN (V (seN sh Si k))), .long (lN ((U (seN sh Si k)) * 1)), .ref m0]) rfl ?_
  refine lv_lload hx hb dX9_findTone_221 (lv_at hl 0 rfl) ?_
  refine lv_lmul hx hb dX9_findTone_223 ?_
  rw [show ((lN (V (seN sh Si k))) * (1 : Int64) : Int64) = lN ((V (seN sh Si k)) * 1) from lN_mul (V (seN sh Si k)) 1]
  refine wVv (wr := [(rO, .inl (E.2 2, 4, .inr (.inl (lA U)))), (rU, .inl (E.2 2, 4, .inr (.inl (lA V)))), (rT, .inl (E.2 1, 4, .inl (nA Te))), (rS, .inl (E.2 1, 8, .inl (nA Si))), (rB, .inl (E.2 1, 8, .inl (nA Ba))), (rP, .inl (E.2 1, 8, .inl (nA Sm))), (rG, .inl (E.2 1, 8, .inl (nA Gr)))]) hE ⟨hx, hb, hml, hown, hts⟩ (c_X9_reduce l E s.heap.size m0 (nI sh) rO rU rT (nI rg) rS rB rP rG ab0 be0 mk rM md rN rL rZ rE rI hc rA rX lnn rV rW sl rC rF rQ rK rR rD ((U (seN sh Si k)) * 1) ((V (seN sh Si k)) * 1) (Nat.mul_pos hU1 (by omega)) (Nat.lt_of_le_of_lt (Nat.mul_le_mul hU2 (show _ ≤ 20000 by omega)) (by decide)) (Nat.mul_pos hV1 (by omega)) (Nat.lt_of_le_of_lt (Nat.mul_le_mul hV2 (show _ ≤ 20000 by omega)) (by decide))) (cwV 2 hts gX9_findTone_X9_reduce rfl rfl rfl (by decide +kernel) ⟨Nat.le_of_ble_eq_true rfl, Nat.le_of_ble_eq_true rfl⟩) hP hD hS hA [0] [1, 2, 3, 4, 5, 6, 7] rfl rfl (by decide) (by decide) (by decide) 0 9 rfl rfl rfl hl.1 rfl (Nat.le_of_ble_eq_true rfl) dX9_findTone_224 ⟨(Nat.zero_le _), (Nat.zero_le _)⟩ (fun u H locs hw hP hD hS => ?_)
  have hP : va_P E.1 vwCl [(rO, .inl (E.2 2, 4, .inr (.inl (lA U)))), (rU, .inl (E.2 2, 4, .inr (.inl (lA V)))), (rT, .inl (E.2 1, 4, .inl (nA Te))), (rS, .inl (E.2 1, 8, .inl (nA Si))), (rB, .inl (E.2 1, 8, .inl (nA Ba))), (rP, .inl (E.2 1, 8, .inl (nA Sm))), (rG, .inl (E.2 1, 8, .inl (nA Gr))), (m0, .inr (9, [.int (nI sh), .ref rO, .ref rU, .ref rT, .int (nI rg), .ref rS, .ref rB, .ref rP, .ref rG, .long (lN (tA ((U (seN sh Si k)) * 1) ((V (seN sh Si k)) * 1))), .long (lN (tB ((U (seN sh Si k)) * 1) ((V (seN sh Si k)) * 1))), .int mk, .ref rM, .int md, .ref rN, .ref rL, .ref rZ, .ref rE, .ref rI, .int hc, .ref rA, .ref rX, .int lnn, .ref rV, .ref rW, .int sl, .ref rC, .ref rF, .ref rQ, .ref rK, .ref rR, .ref rD]))] H := hP
  have hD : va_D A [(rO, .inl (E.2 2, 4, .inr (.inl (lA U)))), (rU, .inl (E.2 2, 4, .inr (.inl (lA V)))), (rT, .inl (E.2 1, 4, .inl (nA Te))), (rS, .inl (E.2 1, 8, .inl (nA Si))), (rB, .inl (E.2 1, 8, .inl (nA Ba))), (rP, .inl (E.2 1, 8, .inl (nA Sm))), (rG, .inl (E.2 1, 8, .inl (nA Gr))), (m0, .inr (9, [.int (nI sh), .ref rO, .ref rU, .ref rT, .int (nI rg), .ref rS, .ref rB, .ref rP, .ref rG, .long (lN (tA ((U (seN sh Si k)) * 1) ((V (seN sh Si k)) * 1))), .long (lN (tB ((U (seN sh Si k)) * 1) ((V (seN sh Si k)) * 1))), .int mk, .ref rM, .int md, .ref rN, .ref rL, .ref rZ, .ref rE, .ref rI, .int hc, .ref rA, .ref rX, .int lnn, .ref rV, .ref rW, .int sl, .ref rC, .ref rF, .ref rQ, .ref rK, .ref rR, .ref rD]))] := hD
  have e9 : ([(m0, .inr (9, [.int (nI sh), .ref rO, .ref rU, .ref rT, .int (nI rg), .ref rS, .ref rB, .ref rP, .ref rG, .long (lN (tA (U (seN sh Si k) * (1)) (V (seN sh Si k) * (1)))), .long (lN (tB (U (seN sh Si k) * (1)) (V (seN sh Si k) * (1)))), .int mk, .ref rM, .int md, .ref rN, .ref rL, .ref rZ, .ref rE, .ref rI, .int hc, .ref rA, .ref rX, .int lnn, .ref rV, .ref rW, .int sl, .ref rC, .ref rF, .ref rQ, .ref rK, .ref rR, .ref rD])), (rO, .inl (E.2 2, 4, .inr (.inl (lA U)))), (rU, .inl (E.2 2, 4, .inr (.inl (lA V)))), (rT, .inl (E.2 1, 4, .inl (nA Te))), (rS, .inl (E.2 1, 8, .inl (nA Si))), (rB, .inl (E.2 1, 8, .inl (nA Ba))), (rP, .inl (E.2 1, 8, .inl (nA Sm))), (rG, .inl (E.2 1, 8, .inl (nA Gr)))] : va_W) = [(m0, .inr (9, [.int (nI sh), .ref rO, .ref rU, .ref rT, .int (nI rg), .ref rS, .ref rB, .ref rP, .ref rG, .long (lN (tA ((U (seN sh Si k)) * 1) ((V (seN sh Si k)) * 1))), .long (lN (tB ((U (seN sh Si k)) * 1) ((V (seN sh Si k)) * 1))), .int mk, .ref rM, .int md, .ref rN, .ref rL, .ref rZ, .ref rE, .ref rI, .int hc, .ref rA, .ref rX, .int lnn, .ref rV, .ref rW, .int sl, .ref rC, .ref rF, .ref rQ, .ref rK, .ref rR, .ref rD])), (rO, .inl (E.2 2, 4, .inr (.inl (lA U)))), (rU, .inl (E.2 2, 4, .inr (.inl (lA V)))), (rT, .inl (E.2 1, 4, .inl (nA Te))), (rS, .inl (E.2 1, 8, .inl (nA Si))), (rB, .inl (E.2 1, 8, .inl (nA Ba))), (rP, .inl (E.2 1, 8, .inl (nA Sm))), (rG, .inl (E.2 1, 8, .inl (nA Gr)))] := by rfl
  have hP9 : va_P E.1 vwCl [(m0, .inr (9, [.int (nI sh), .ref rO, .ref rU, .ref rT, .int (nI rg), .ref rS, .ref rB, .ref rP, .ref rG, .long (lN (tA (U (seN sh Si k) * (1)) (V (seN sh Si k) * (1)))), .long (lN (tB (U (seN sh Si k) * (1)) (V (seN sh Si k) * (1)))), .int mk, .ref rM, .int md, .ref rN, .ref rL, .ref rZ, .ref rE, .ref rI, .int hc, .ref rA, .ref rX, .int lnn, .ref rV, .ref rW, .int sl, .ref rC, .ref rF, .ref rQ, .ref rK, .ref rR, .ref rD])), (rO, .inl (E.2 2, 4, .inr (.inl (lA U)))), (rU, .inl (E.2 2, 4, .inr (.inl (lA V)))), (rT, .inl (E.2 1, 4, .inl (nA Te))), (rS, .inl (E.2 1, 8, .inl (nA Si))), (rB, .inl (E.2 1, 8, .inl (nA Ba))), (rP, .inl (E.2 1, 8, .inl (nA Sm))), (rG, .inl (E.2 1, 8, .inl (nA Gr)))] H := by rw [e9]; exact hP.sub [7, 0, 1, 2, 3, 4, 5, 6] rfl
  have hD9 : va_D A [(m0, .inr (9, [.int (nI sh), .ref rO, .ref rU, .ref rT, .int (nI rg), .ref rS, .ref rB, .ref rP, .ref rG, .long (lN (tA (U (seN sh Si k) * (1)) (V (seN sh Si k) * (1)))), .long (lN (tB (U (seN sh Si k) * (1)) (V (seN sh Si k) * (1)))), .int mk, .ref rM, .int md, .ref rN, .ref rL, .ref rZ, .ref rE, .ref rI, .int hc, .ref rA, .ref rX, .int lnn, .ref rV, .ref rW, .int sl, .ref rC, .ref rF, .ref rQ, .ref rK, .ref rR, .ref rD])), (rO, .inl (E.2 2, 4, .inr (.inl (lA U)))), (rU, .inl (E.2 2, 4, .inr (.inl (lA V)))), (rT, .inl (E.2 1, 4, .inl (nA Te))), (rS, .inl (E.2 1, 8, .inl (nA Si))), (rB, .inl (E.2 1, 8, .inl (nA Ba))), (rP, .inl (E.2 1, 8, .inl (nA Sm))), (rG, .inl (E.2 1, 8, .inl (nA Gr)))] := by rw [e9]; exact hD.sub [7, 0, 1, 2, 3, 4, 5, 6] (by decide) rfl
  exact W.vret hx hb hr (fun t9 ht9 hW9 => ⟨⟨(), rfl, trivial, ⟨by rw [ht9]; exact hP9, hD9⟩⟩, hS.F ht9⟩) hS.2.2 dX9_findTone_227
set_option maxHeartbeats 1000000 in
set_option maxRecDepth 100000 in
theorem c_X9_findTone_0_1 (l : Launch) (E : EnvT) (sz : Nat) (m0 : Nat) (sh : Nat) (rO : Nat) (rU : Nat) (rT : Nat) (rg : Nat) (rS : Nat) (rB : Nat) (rP : Nat) (rG : Nat) (ab0 : Int64) (be0 : Int64) (mk : Int32) (rM : Nat) (md : Int32) (rN : Nat) (rL : Nat) (rZ : Nat) (rE : Nat) (rI : Nat) (hc : Int32) (rA : Nat) (rX : Nat) (lnn : Int32) (rV : Nat) (rW : Nat) (sl : Int32) (rC : Nat) (rF : Nat) (rQ : Nat) (rK : Nat) (rR : Nat) (rD : Nat) (U : Nat → Nat) (V : Nat → Nat) (Te : Nat → Nat) (Si : Nat → Nat) (Ba : Nat → Nat) (Sm : Nat → Nat) (Gr : Nat → Nat) (k : Nat) (hs1 : 1 ≤ sh) (hs4 : sh ≤ 4) (hr8 : rg ≤ 8) (hk : k < 2 * sh - 1 + 4 * rg) (hse : seN sh Si k < 4) (hU1 : 0 < U (seN sh Si k)) (hU2 : U (seN sh Si k) ≤ 8000000) (hV1 : 0 < V (seN sh Si k)) (hV2 : V (seN sh Si k) ≤ 8000000) (hkd : kdN sh k = 0) : Met l yX9_findTone wsX9_findTone ({ frames := 2, cells := 0, slots := 0, locals := 42 }) (va_Pc [.ref m0, .int (nI k), .int 1] (PW E [(m0, .inr (9, [.int (nI sh), .ref rO, .ref rU, .ref rT, .int (nI rg), .ref rS, .ref rB, .ref rP, .ref rG, .long ab0, .long be0, .int mk, .ref rM, .int md, .ref rN, .ref rL, .ref rZ, .ref rE, .ref rI, .int hc, .ref rA, .ref rX, .int lnn, .ref rV, .ref rW, .int sl, .ref rC, .ref rF, .ref rQ, .ref rK, .ref rR, .ref rD])), (rO, .inl (E.2 2, 4, .inr (.inl (lA U)))), (rU, .inl (E.2 2, 4, .inr (.inl (lA V)))), (rT, .inl (E.2 1, 4, .inl (nA Te))), (rS, .inl (E.2 1, 8, .inl (nA Si))), (rB, .inl (E.2 1, 8, .inl (nA Ba))), (rP, .inl (E.2 1, 8, .inl (nA Sm))), (rG, .inl (E.2 1, 8, .inl (nA Gr)))] sz)) (va_Qv (fun (uu : Unit) => True) (fun (uu : Unit) t => BW E (va_A [(m0, .inr (9, [.int (nI sh), .ref rO, .ref rU, .ref rT, .int (nI rg), .ref rS, .ref rB, .ref rP, .ref rG, .long ab0, .long be0, .int mk, .ref rM, .int md, .ref rN, .ref rL, .ref rZ, .ref rE, .ref rI, .int hc, .ref rA, .ref rX, .int lnn, .ref rV, .ref rW, .int sl, .ref rC, .ref rF, .ref rQ, .ref rK, .ref rR, .ref rD])), (rO, .inl (E.2 2, 4, .inr (.inl (lA U)))), (rU, .inl (E.2 2, 4, .inr (.inl (lA V)))), (rT, .inl (E.2 1, 4, .inl (nA Te))), (rS, .inl (E.2 1, 8, .inl (nA Si))), (rB, .inl (E.2 1, 8, .inl (nA Ba))), (rP, .inl (E.2 1, 8, .inl (nA Sm))), (rG, .inl (E.2 1, 8, .inl (nA Gr)))] sz) [(m0, .inr (9, [.int (nI sh), .ref rO, .ref rU, .ref rT, .int (nI rg), .ref rS, .ref rB, .ref rP, .ref rG, .long (lN (tA (U (seN sh Si k) * (2)) (V (seN sh Si k) * (1)))), .long (lN (tB (U (seN sh Si k) * (2)) (V (seN sh Si k) * (1)))), .int mk, .ref rM, .int md, .ref rN, .ref rL, .ref rZ, .ref rE, .ref rI, .int hc, .ref rA, .ref rX, .int lnn, .ref rV, .ref rW, .int sl, .ref rC, .ref rF, .ref rQ, .ref rK, .ref rR, .ref rD])), (rO, .inl (E.2 2, 4, .inr (.inl (lA U)))), (rU, .inl (E.2 2, 4, .inr (.inl (lA V)))), (rT, .inl (E.2 1, 4, .inl (nA Te))), (rS, .inl (E.2 1, 8, .inl (nA Si))), (rB, .inl (E.2 1, 8, .inl (nA Ba))), (rP, .inl (E.2 1, 8, .inl (nA Sm))), (rG, .inl (E.2 1, 8, .inl (nA Gr)))] t) (va_A [(m0, .inr (9, [.int (nI sh), .ref rO, .ref rU, .ref rT, .int (nI rg), .ref rS, .ref rB, .ref rP, .ref rG, .long ab0, .long be0, .int mk, .ref rM, .int md, .ref rN, .ref rL, .ref rZ, .ref rE, .ref rI, .int hc, .ref rA, .ref rX, .int lnn, .ref rV, .ref rW, .int sl, .ref rC, .ref rF, .ref rQ, .ref rK, .ref rR, .ref rD])), (rO, .inl (E.2 2, 4, .inr (.inl (lA U)))), (rU, .inl (E.2 2, 4, .inr (.inl (lA V)))), (rT, .inl (E.2 1, 4, .inl (nA Te))), (rS, .inl (E.2 1, 8, .inl (nA Si))), (rB, .inl (E.2 1, 8, .inl (nA Ba))), (rP, .inl (E.2 1, 8, .inl (nA Sm))), (rG, .inl (E.2 1, 8, .inl (nA Gr)))] sz)) 0 0 (va_A [(m0, .inr (9, [.int (nI sh), .ref rO, .ref rU, .ref rT, .int (nI rg), .ref rS, .ref rB, .ref rP, .ref rG, .long ab0, .long be0, .int mk, .ref rM, .int md, .ref rN, .ref rL, .ref rZ, .ref rE, .ref rI, .int hc, .ref rA, .ref rX, .int lnn, .ref rV, .ref rW, .int sl, .ref rC, .ref rF, .ref rQ, .ref rK, .ref rR, .ref rD])), (rO, .inl (E.2 2, 4, .inr (.inl (lA U)))), (rU, .inl (E.2 2, 4, .inr (.inl (lA V)))), (rT, .inl (E.2 1, 4, .inl (nA Te))), (rS, .inl (E.2 1, 8, .inl (nA Si))), (rB, .inl (E.2 1, 8, .inl (nA Ba))), (rP, .inl (E.2 1, 8, .inl (nA Sm))), (rG, .inl (E.2 1, 8, .inl (nA Gr)))] sz) := by
  refine Met.ofW (cc := cX9_findTone) (maxL := 14) (ret := none) (by decide +kernel) rfl ?_
  intro p e s m args below meth c s₁ B hml hv
  obtain ⟨rfl, hsz, hP, hE, hD0⟩ := hv
  have hx := B.exec
  have hb := B.bytes
  have hr := B.returns
  have hts := atoms_spec (ws := wsX9_findTone) B.pre
  have hown : s.vm.findClass RX9 = some m.cls := findClass_of_methodNamed B.named
  have hlocks := B.notSynchronized
  have hK := hE.1
  have hNN := hE.2.1
  have hinX9 : ∀ w ∈ wsX90, w ∈ wsX9_findTone := fun w h => List.mem_cons_of_mem _ (List.mem_append_right _ h)
  subst hsz
  have hD := hD0.self (sz := s.heap.size)
  generalize hAe : va_A [(m0, .inr (9, [.int (nI sh), .ref rO, .ref rU, .ref rT, .int (nI rg), .ref rS, .ref rB, .ref rP, .ref rG, .long ab0, .long be0, .int mk, .ref rM, .int md, .ref rN, .ref rL, .ref rZ, .ref rE, .ref rI, .int hc, .ref rA, .ref rX, .int lnn, .ref rV, .ref rW, .int sl, .ref rC, .ref rF, .ref rQ, .ref rK, .ref rR, .ref rD])), (rO, .inl (E.2 2, 4, .inr (.inl (lA U)))), (rU, .inl (E.2 2, 4, .inr (.inl (lA V)))), (rT, .inl (E.2 1, 4, .inl (nA Te))), (rS, .inl (E.2 1, 8, .inl (nA Si))), (rB, .inl (E.2 1, 8, .inl (nA Ba))), (rP, .inl (E.2 1, 8, .inl (nA Sm))), (rG, .inl (E.2 1, 8, .inl (nA Gr)))] s.heap.size = A at hD ⊢
  have hA : ∀ q : Nat, s.heap.size ≤ q → A q := fun q h => by rw [← hAe]; exact Or.inr h
  have hS : va_S A s.heap s.heap [] := va_S.rf
  have hl := lv_entry ([.ref m0, .int (nI k), .int 1]) (n := 14) (Nat.le_of_ble_eq_true rfl)
  rw [lg_entry_eq]
  generalize (lg_sl ([.ref m0, .int (nI k), .int 1]) ++ List.replicate (14 - (lg_sl ([.ref m0, .int (nI k), .int 1])).length) Slot.unset).toArray = ls at hl ⊢
  have hl : lv_has ls 14 [(0, .ref m0), (1, .int (nI k)), (2, .int 1)] := hl
  refine lv_aload_n hx hb dX9_findTone_0 rfl (lv_at hl 0 rfl) ?_
  refine lv_iload_n hx hb dX9_findTone_1 rfl (lv_at hl 1 rfl) ?_
  refine rVi hE ⟨hx, hb, hml, hown, hts⟩ (c_X9_kindOf l E m0 sh rO rU rT rg rS rB rP rG ab0 be0 mk rM md rN rL rZ rE rI hc rA rX lnn rV rW sl rC rF rQ rK rR rD k (hs1) (hs4) (hr8) (hk)) (cwV 1 hts gX9_findTone_X9_kindOf rfl rfl rfl (by decide +kernel) ⟨Nat.le_of_ble_eq_true rfl, Nat.le_of_ble_eq_true rfl⟩) (hP.sub [0] rfl) 0 9 rfl rfl rfl hl.1 rfl (Nat.le_of_ble_eq_true rfl) dX9_findTone_2 ⟨(Nat.zero_le _), (Nat.zero_le _)⟩ ?_
  rw [show (nI (kdN sh k) : Int32) = 0 from by rw [hkd]; rfl]
  refine lv_istore_n (lv' := [(3, .int 0), (0, .ref m0), (1, .int (nI k)), (2, .int 1)]) hx hb dX9_findTone_5 rfl hl (by decide) rfl (fun ls hl => ?_)
  refine lv_aload_n hx hb dX9_findTone_6 rfl (lv_at hl 1 rfl) ?_
  refine lv_iload_n hx hb dX9_findTone_7 rfl (lv_at hl 2 rfl) ?_
  refine rVi hE ⟨hx, hb, hml, hown, hts⟩ (c_X9_shaftOf l E m0 sh rO rU rT rg rS rB rP rG ab0 be0 mk rM md rN rL rZ rE rI hc rA rX lnn rV rW sl rC rF rQ rK rR rD Si k (hs1) (hs4) (hr8) (hk)) (cwV 1 hts gX9_findTone_X9_shaftOf rfl rfl rfl (by decide +kernel) ⟨Nat.le_of_ble_eq_true rfl, Nat.le_of_ble_eq_true rfl⟩) (hP.sub [0, 4] rfl) 0 9 rfl rfl rfl hl.1 rfl (Nat.le_of_ble_eq_true rfl) dX9_findTone_8 ⟨(Nat.zero_le _), (Nat.zero_le _)⟩ ?_
  refine lv_istore (lv' := [(4, .int (nI (seN sh Si k))), (3, .int 0), (0, .ref m0), (1, .int (nI k)), (2, .int 1)]) hx hb dX9_findTone_11 hl (by decide) rfl (fun ls hl => ?_)
  refine lv_iload_n hx hb dX9_findTone_13 rfl (lv_at hl 4 rfl) ?_
  refine lv_i2l (v := 1) hx hb dX9_findTone_14 (by decide) ?_
  refine lv_lconst (v := 1) hx hb dX9_findTone_15 (by decide) ?_
  refine lv_ladd hx hb dX9_findTone_16 ?_
  rw [show ((1 : Int64) + (1 : Int64) : Int64) = lN (2) from lN_add 1 1]
  refine lv_lstore (lv' := [(5, .long (lN (2))), (4, .int (nI (seN sh Si k))), (3, .int 0), (0, .ref m0), (1, .int (nI k)), (2, .int 1)]) hx hb dX9_findTone_17 hl (by decide) rfl (fun ls hl => ?_)
  refine lv_lconst (v := 1) hx hb dX9_findTone_19 (by decide) ?_
  refine lv_lstore (lv' := [(7, .long 1), (5, .long (lN (2))), (4, .int (nI (seN sh Si k))), (3, .int 0), (0, .ref m0), (1, .int (nI k)), (2, .int 1)]) hx hb dX9_findTone_20 hl (by decide) rfl (fun ls hl => ?_)
  refine lv_iload_n hx hb dX9_findTone_22 rfl (lv_at hl 3 rfl) ?_
  refine lv_iconst (v := 1) hx hb dX9_findTone_23 (by decide) ?_
  refine lv_icmp_ne (tgt := 45) hx hb dX9_findTone_24 (by decide) (fun c_24 => ?_) (fun c_24 => by exfalso; revert c_24; decide)
  refine lv_iload_n hx hb dX9_findTone_45 rfl (lv_at hl 3 rfl) ?_
  refine lv_iconst (v := 1) hx hb dX9_findTone_46 (by decide) ?_
  refine lv_icmp_le (tgt := 203) hx hb dX9_findTone_47 (by decide) (fun c_47 => ?_) (fun c_47 => by exfalso; revert c_47; decide)
  refine lv_aload_n hx hb dX9_findTone_203 rfl (lv_at hl 4 rfl) ?_
  refine lv_aload_n hx hb dX9_findTone_204 rfl (lv_at hl 4 rfl) ?_
  refine va_get (D := E.1) (ci := 9) (v := .ref rO) (C := RX9) (T := TX9) (N := 32) hx hb hts hinX9 hown hK hP 0 rfl rfl 1 (by decide) (hts (.fieldLink RX9 13 "WornRingsModel" "over" "[J") (by decide +kernel)) (fun _ h9 => h9) rfl dX9_findTone_205 ?_
  refine lv_iload hx hb dX9_findTone_208 (lv_at hl 2 rfl) ?_
  refine va_lald hx hb hK hP 1 2 rfl rfl (vp_in_nI (by omega) (by omega)) dX9_findTone_210 ?_
  rw [nI_clamp (n := seN sh Si k) (by omega)]
  refine W.eq (g2 := F0 m 211 ls [.long (lN (U (seN sh Si k))), .ref m0]) rfl ?_
  refine lv_lload hx hb dX9_findTone_211 (lv_at hl 1 rfl) ?_
  refine lv_lmul hx hb dX9_findTone_213 ?_
  rw [show ((lN (U (seN sh Si k))) * lN (2) : Int64) = lN ((U (seN sh Si k)) * 2) from lN_mul (U (seN sh Si k)) 2]
  refine lv_aload_n hx hb dX9_findTone_214 rfl (lv_at hl 4 rfl) ?_
  refine va_get (D := E.1) (ci := 9) (v := .ref rU) (C := RX9) (T := TX9) (N := 32) hx hb hts hinX9 hown hK hP 0 rfl rfl 2 (by decide) (hts (.fieldLink RX9 17 "WornRingsModel" "under" "[J") (by decide +kernel)) (fun _ h9 => h9) rfl dX9_findTone_215 ?_
  refine lv_iload hx hb dX9_findTone_218 (lv_at hl 2 rfl) ?_
  refine va_lald hx hb hK hP 2 2 rfl rfl (vp_in_nI (by omega) (by omega)) dX9_findTone_220 ?_
  rw [nI_clamp (n := seN sh Si k) (by omega)]
  refine W.eq (g2 := F0 m 221 ls [.long (lN (V (seN sh Si k))), .long (lN ((U (seN sh Si k)) * 2)), .ref m0]) rfl ?_
  refine lv_lload hx hb dX9_findTone_221 (lv_at hl 0 rfl) ?_
  refine lv_lmul hx hb dX9_findTone_223 ?_
  rw [show ((lN (V (seN sh Si k))) * (1 : Int64) : Int64) = lN ((V (seN sh Si k)) * 1) from lN_mul (V (seN sh Si k)) 1]
  refine wVv (wr := [(rO, .inl (E.2 2, 4, .inr (.inl (lA U)))), (rU, .inl (E.2 2, 4, .inr (.inl (lA V)))), (rT, .inl (E.2 1, 4, .inl (nA Te))), (rS, .inl (E.2 1, 8, .inl (nA Si))), (rB, .inl (E.2 1, 8, .inl (nA Ba))), (rP, .inl (E.2 1, 8, .inl (nA Sm))), (rG, .inl (E.2 1, 8, .inl (nA Gr)))]) hE ⟨hx, hb, hml, hown, hts⟩ (c_X9_reduce l E s.heap.size m0 (nI sh) rO rU rT (nI rg) rS rB rP rG ab0 be0 mk rM md rN rL rZ rE rI hc rA rX lnn rV rW sl rC rF rQ rK rR rD ((U (seN sh Si k)) * 2) ((V (seN sh Si k)) * 1) (Nat.mul_pos hU1 (by omega)) (Nat.lt_of_le_of_lt (Nat.mul_le_mul hU2 (show _ ≤ 20000 by omega)) (by decide)) (Nat.mul_pos hV1 (by omega)) (Nat.lt_of_le_of_lt (Nat.mul_le_mul hV2 (show _ ≤ 20000 by omega)) (by decide))) (cwV 2 hts gX9_findTone_X9_reduce rfl rfl rfl (by decide +kernel) ⟨Nat.le_of_ble_eq_true rfl, Nat.le_of_ble_eq_true rfl⟩) hP hD hS hA [0] [1, 2, 3, 4, 5, 6, 7] rfl rfl (by decide) (by decide) (by decide) 0 9 rfl rfl rfl hl.1 rfl (Nat.le_of_ble_eq_true rfl) dX9_findTone_224 ⟨(Nat.zero_le _), (Nat.zero_le _)⟩ (fun u H locs hw hP hD hS => ?_)
  have hP : va_P E.1 vwCl [(rO, .inl (E.2 2, 4, .inr (.inl (lA U)))), (rU, .inl (E.2 2, 4, .inr (.inl (lA V)))), (rT, .inl (E.2 1, 4, .inl (nA Te))), (rS, .inl (E.2 1, 8, .inl (nA Si))), (rB, .inl (E.2 1, 8, .inl (nA Ba))), (rP, .inl (E.2 1, 8, .inl (nA Sm))), (rG, .inl (E.2 1, 8, .inl (nA Gr))), (m0, .inr (9, [.int (nI sh), .ref rO, .ref rU, .ref rT, .int (nI rg), .ref rS, .ref rB, .ref rP, .ref rG, .long (lN (tA ((U (seN sh Si k)) * 2) ((V (seN sh Si k)) * 1))), .long (lN (tB ((U (seN sh Si k)) * 2) ((V (seN sh Si k)) * 1))), .int mk, .ref rM, .int md, .ref rN, .ref rL, .ref rZ, .ref rE, .ref rI, .int hc, .ref rA, .ref rX, .int lnn, .ref rV, .ref rW, .int sl, .ref rC, .ref rF, .ref rQ, .ref rK, .ref rR, .ref rD]))] H := hP
  have hD : va_D A [(rO, .inl (E.2 2, 4, .inr (.inl (lA U)))), (rU, .inl (E.2 2, 4, .inr (.inl (lA V)))), (rT, .inl (E.2 1, 4, .inl (nA Te))), (rS, .inl (E.2 1, 8, .inl (nA Si))), (rB, .inl (E.2 1, 8, .inl (nA Ba))), (rP, .inl (E.2 1, 8, .inl (nA Sm))), (rG, .inl (E.2 1, 8, .inl (nA Gr))), (m0, .inr (9, [.int (nI sh), .ref rO, .ref rU, .ref rT, .int (nI rg), .ref rS, .ref rB, .ref rP, .ref rG, .long (lN (tA ((U (seN sh Si k)) * 2) ((V (seN sh Si k)) * 1))), .long (lN (tB ((U (seN sh Si k)) * 2) ((V (seN sh Si k)) * 1))), .int mk, .ref rM, .int md, .ref rN, .ref rL, .ref rZ, .ref rE, .ref rI, .int hc, .ref rA, .ref rX, .int lnn, .ref rV, .ref rW, .int sl, .ref rC, .ref rF, .ref rQ, .ref rK, .ref rR, .ref rD]))] := hD
  have e9 : ([(m0, .inr (9, [.int (nI sh), .ref rO, .ref rU, .ref rT, .int (nI rg), .ref rS, .ref rB, .ref rP, .ref rG, .long (lN (tA (U (seN sh Si k) * (2)) (V (seN sh Si k) * (1)))), .long (lN (tB (U (seN sh Si k) * (2)) (V (seN sh Si k) * (1)))), .int mk, .ref rM, .int md, .ref rN, .ref rL, .ref rZ, .ref rE, .ref rI, .int hc, .ref rA, .ref rX, .int lnn, .ref rV, .ref rW, .int sl, .ref rC, .ref rF, .ref rQ, .ref rK, .ref rR, .ref rD])), (rO, .inl (E.2 2, 4, .inr (.inl (lA U)))), (rU, .inl (E.2 2, 4, .inr (.inl (lA V)))), (rT, .inl (E.2 1, 4, .inl (nA Te))), (rS, .inl (E.2 1, 8, .inl (nA Si))), (rB, .inl (E.2 1, 8, .inl (nA Ba))), (rP, .inl (E.2 1, 8, .inl (nA Sm))), (rG, .inl (E.2 1, 8, .inl (nA Gr)))] : va_W) = [(m0, .inr (9, [.int (nI sh), .ref rO, .ref rU, .ref rT, .int (nI rg), .ref rS, .ref rB, .ref rP, .ref rG, .long (lN (tA ((U (seN sh Si k)) * 2) ((V (seN sh Si k)) * 1))), .long (lN (tB ((U (seN sh Si k)) * 2) ((V (seN sh Si k)) * 1))), .int mk, .ref rM, .int md, .ref rN, .ref rL, .ref rZ, .ref rE, .ref rI, .int hc, .ref rA, .ref rX, .int lnn, .ref rV, .ref rW, .int sl, .ref rC, .ref rF, .ref rQ, .ref rK, .ref rR, .ref rD])), (rO, .inl (E.2 2, 4, .inr (.inl (lA U)))), (rU, .inl (E.2 2, 4, .inr (.inl (lA V)))), (rT, .inl (E.2 1, 4, .inl (nA Te))), (rS, .inl (E.2 1, 8, .inl (nA Si))), (rB, .inl (E.2 1, 8, .inl (nA Ba))), (rP, .inl (E.2 1, 8, .inl (nA Sm))), (rG, .inl (E.2 1, 8, .inl (nA Gr)))] := by rfl
  have hP9 : va_P E.1 vwCl [(m0, .inr (9, [.int (nI sh), .ref rO, .ref rU, .ref rT, .int (nI rg), .ref rS, .ref rB, .ref rP, .ref rG, .long (lN (tA (U (seN sh Si k) * (2)) (V (seN sh Si k) * (1)))), .long (lN (tB (U (seN sh Si k) * (2)) (V (seN sh Si k) * (1)))), .int mk, .ref rM, .int md, .ref rN, .ref rL, .ref rZ, .ref rE, .ref rI, .int hc, .ref rA, .ref rX, .int lnn, .ref rV, .ref rW, .int sl, .ref rC, .ref rF, .ref rQ, .ref rK, .ref rR, .ref rD])), (rO, .inl (E.2 2, 4, .inr (.inl (lA U)))), (rU, .inl (E.2 2, 4, .inr (.inl (lA V)))), (rT, .inl (E.2 1, 4, .inl (nA Te))), (rS, .inl (E.2 1, 8, .inl (nA Si))), (rB, .inl (E.2 1, 8, .inl (nA Ba))), (rP, .inl (E.2 1, 8, .inl (nA Sm))), (rG, .inl (E.2 1, 8, .inl (nA Gr)))] H := by rw [e9]; exact hP.sub [7, 0, 1, 2, 3, 4, 5, 6] rfl
  have hD9 : va_D A [(m0, .inr (9, [.int (nI sh), .ref rO, .ref rU, .ref rT, .int (nI rg), .ref rS, .ref rB, .ref rP, .ref rG, .long (lN (tA (U (seN sh Si k) * (2)) (V (seN sh Si k) * (1)))), .long (lN (tB (U (seN sh Si k) * (2)) (V (seN sh Si k) * (1)))), .int mk, .ref rM, .int md, .ref rN, .ref rL, .ref rZ, .ref rE, .ref rI, .int hc, .ref rA, .ref rX, .int lnn, .ref rV, .ref rW, .int sl, .ref rC, .ref rF, .ref rQ, .ref rK, .ref rR, .ref rD])), (rO, .inl (E.2 2, 4, .inr (.inl (lA U)))), (rU, .inl (E.2 2, 4, .inr (.inl (lA V)))), (rT, .inl (E.2 1, 4, .inl (nA Te))), (rS, .inl (E.2 1, 8, .inl (nA Si))), (rB, .inl (E.2 1, 8, .inl (nA Ba))), (rP, .inl (E.2 1, 8, .inl (nA Sm))), (rG, .inl (E.2 1, 8, .inl (nA Gr)))] := by rw [e9]; exact hD.sub [7, 0, 1, 2, 3, 4, 5, 6] (by decide) rfl
  exact W.vret hx hb hr (fun t9 ht9 hW9 => ⟨⟨(), rfl, trivial, ⟨by rw [ht9]; exact hP9, hD9⟩⟩, hS.F ht9⟩) hS.2.2 dX9_findTone_227
set_option maxHeartbeats 1000000 in
set_option maxRecDepth 100000 in
theorem c_X9_findTone_0_2 (l : Launch) (E : EnvT) (sz : Nat) (m0 : Nat) (sh : Nat) (rO : Nat) (rU : Nat) (rT : Nat) (rg : Nat) (rS : Nat) (rB : Nat) (rP : Nat) (rG : Nat) (ab0 : Int64) (be0 : Int64) (mk : Int32) (rM : Nat) (md : Int32) (rN : Nat) (rL : Nat) (rZ : Nat) (rE : Nat) (rI : Nat) (hc : Int32) (rA : Nat) (rX : Nat) (lnn : Int32) (rV : Nat) (rW : Nat) (sl : Int32) (rC : Nat) (rF : Nat) (rQ : Nat) (rK : Nat) (rR : Nat) (rD : Nat) (U : Nat → Nat) (V : Nat → Nat) (Te : Nat → Nat) (Si : Nat → Nat) (Ba : Nat → Nat) (Sm : Nat → Nat) (Gr : Nat → Nat) (k : Nat) (hs1 : 1 ≤ sh) (hs4 : sh ≤ 4) (hr8 : rg ≤ 8) (hk : k < 2 * sh - 1 + 4 * rg) (hse : seN sh Si k < 4) (hU1 : 0 < U (seN sh Si k)) (hU2 : U (seN sh Si k) ≤ 8000000) (hV1 : 0 < V (seN sh Si k)) (hV2 : V (seN sh Si k) ≤ 8000000) (hkd : kdN sh k = 0) : Met l yX9_findTone wsX9_findTone ({ frames := 2, cells := 0, slots := 0, locals := 42 }) (va_Pc [.ref m0, .int (nI k), .int 2] (PW E [(m0, .inr (9, [.int (nI sh), .ref rO, .ref rU, .ref rT, .int (nI rg), .ref rS, .ref rB, .ref rP, .ref rG, .long ab0, .long be0, .int mk, .ref rM, .int md, .ref rN, .ref rL, .ref rZ, .ref rE, .ref rI, .int hc, .ref rA, .ref rX, .int lnn, .ref rV, .ref rW, .int sl, .ref rC, .ref rF, .ref rQ, .ref rK, .ref rR, .ref rD])), (rO, .inl (E.2 2, 4, .inr (.inl (lA U)))), (rU, .inl (E.2 2, 4, .inr (.inl (lA V)))), (rT, .inl (E.2 1, 4, .inl (nA Te))), (rS, .inl (E.2 1, 8, .inl (nA Si))), (rB, .inl (E.2 1, 8, .inl (nA Ba))), (rP, .inl (E.2 1, 8, .inl (nA Sm))), (rG, .inl (E.2 1, 8, .inl (nA Gr)))] sz)) (va_Qv (fun (uu : Unit) => True) (fun (uu : Unit) t => BW E (va_A [(m0, .inr (9, [.int (nI sh), .ref rO, .ref rU, .ref rT, .int (nI rg), .ref rS, .ref rB, .ref rP, .ref rG, .long ab0, .long be0, .int mk, .ref rM, .int md, .ref rN, .ref rL, .ref rZ, .ref rE, .ref rI, .int hc, .ref rA, .ref rX, .int lnn, .ref rV, .ref rW, .int sl, .ref rC, .ref rF, .ref rQ, .ref rK, .ref rR, .ref rD])), (rO, .inl (E.2 2, 4, .inr (.inl (lA U)))), (rU, .inl (E.2 2, 4, .inr (.inl (lA V)))), (rT, .inl (E.2 1, 4, .inl (nA Te))), (rS, .inl (E.2 1, 8, .inl (nA Si))), (rB, .inl (E.2 1, 8, .inl (nA Ba))), (rP, .inl (E.2 1, 8, .inl (nA Sm))), (rG, .inl (E.2 1, 8, .inl (nA Gr)))] sz) [(m0, .inr (9, [.int (nI sh), .ref rO, .ref rU, .ref rT, .int (nI rg), .ref rS, .ref rB, .ref rP, .ref rG, .long (lN (tA (U (seN sh Si k) * (3)) (V (seN sh Si k) * (1)))), .long (lN (tB (U (seN sh Si k) * (3)) (V (seN sh Si k) * (1)))), .int mk, .ref rM, .int md, .ref rN, .ref rL, .ref rZ, .ref rE, .ref rI, .int hc, .ref rA, .ref rX, .int lnn, .ref rV, .ref rW, .int sl, .ref rC, .ref rF, .ref rQ, .ref rK, .ref rR, .ref rD])), (rO, .inl (E.2 2, 4, .inr (.inl (lA U)))), (rU, .inl (E.2 2, 4, .inr (.inl (lA V)))), (rT, .inl (E.2 1, 4, .inl (nA Te))), (rS, .inl (E.2 1, 8, .inl (nA Si))), (rB, .inl (E.2 1, 8, .inl (nA Ba))), (rP, .inl (E.2 1, 8, .inl (nA Sm))), (rG, .inl (E.2 1, 8, .inl (nA Gr)))] t) (va_A [(m0, .inr (9, [.int (nI sh), .ref rO, .ref rU, .ref rT, .int (nI rg), .ref rS, .ref rB, .ref rP, .ref rG, .long ab0, .long be0, .int mk, .ref rM, .int md, .ref rN, .ref rL, .ref rZ, .ref rE, .ref rI, .int hc, .ref rA, .ref rX, .int lnn, .ref rV, .ref rW, .int sl, .ref rC, .ref rF, .ref rQ, .ref rK, .ref rR, .ref rD])), (rO, .inl (E.2 2, 4, .inr (.inl (lA U)))), (rU, .inl (E.2 2, 4, .inr (.inl (lA V)))), (rT, .inl (E.2 1, 4, .inl (nA Te))), (rS, .inl (E.2 1, 8, .inl (nA Si))), (rB, .inl (E.2 1, 8, .inl (nA Ba))), (rP, .inl (E.2 1, 8, .inl (nA Sm))), (rG, .inl (E.2 1, 8, .inl (nA Gr)))] sz)) 0 0 (va_A [(m0, .inr (9, [.int (nI sh), .ref rO, .ref rU, .ref rT, .int (nI rg), .ref rS, .ref rB, .ref rP, .ref rG, .long ab0, .long be0, .int mk, .ref rM, .int md, .ref rN, .ref rL, .ref rZ, .ref rE, .ref rI, .int hc, .ref rA, .ref rX, .int lnn, .ref rV, .ref rW, .int sl, .ref rC, .ref rF, .ref rQ, .ref rK, .ref rR, .ref rD])), (rO, .inl (E.2 2, 4, .inr (.inl (lA U)))), (rU, .inl (E.2 2, 4, .inr (.inl (lA V)))), (rT, .inl (E.2 1, 4, .inl (nA Te))), (rS, .inl (E.2 1, 8, .inl (nA Si))), (rB, .inl (E.2 1, 8, .inl (nA Ba))), (rP, .inl (E.2 1, 8, .inl (nA Sm))), (rG, .inl (E.2 1, 8, .inl (nA Gr)))] sz) := by
  refine Met.ofW (cc := cX9_findTone) (maxL := 14) (ret := none) (by decide +kernel) rfl ?_
  intro p e s m args below meth c s₁ B hml hv
  obtain ⟨rfl, hsz, hP, hE, hD0⟩ := hv
  have hx := B.exec
  have hb := B.bytes
  have hr := B.returns
  have hts := atoms_spec (ws := wsX9_findTone) B.pre
  have hown : s.vm.findClass RX9 = some m.cls := findClass_of_methodNamed B.named
  have hlocks := B.notSynchronized
  have hK := hE.1
  have hNN := hE.2.1
  have hinX9 : ∀ w ∈ wsX90, w ∈ wsX9_findTone := fun w h => List.mem_cons_of_mem _ (List.mem_append_right _ h)
  subst hsz
  have hD := hD0.self (sz := s.heap.size)
  generalize hAe : va_A [(m0, .inr (9, [.int (nI sh), .ref rO, .ref rU, .ref rT, .int (nI rg), .ref rS, .ref rB, .ref rP, .ref rG, .long ab0, .long be0, .int mk, .ref rM, .int md, .ref rN, .ref rL, .ref rZ, .ref rE, .ref rI, .int hc, .ref rA, .ref rX, .int lnn, .ref rV, .ref rW, .int sl, .ref rC, .ref rF, .ref rQ, .ref rK, .ref rR, .ref rD])), (rO, .inl (E.2 2, 4, .inr (.inl (lA U)))), (rU, .inl (E.2 2, 4, .inr (.inl (lA V)))), (rT, .inl (E.2 1, 4, .inl (nA Te))), (rS, .inl (E.2 1, 8, .inl (nA Si))), (rB, .inl (E.2 1, 8, .inl (nA Ba))), (rP, .inl (E.2 1, 8, .inl (nA Sm))), (rG, .inl (E.2 1, 8, .inl (nA Gr)))] s.heap.size = A at hD ⊢
  have hA : ∀ q : Nat, s.heap.size ≤ q → A q := fun q h => by rw [← hAe]; exact Or.inr h
  have hS : va_S A s.heap s.heap [] := va_S.rf
  have hl := lv_entry ([.ref m0, .int (nI k), .int 2]) (n := 14) (Nat.le_of_ble_eq_true rfl)
  rw [lg_entry_eq]
  generalize (lg_sl ([.ref m0, .int (nI k), .int 2]) ++ List.replicate (14 - (lg_sl ([.ref m0, .int (nI k), .int 2])).length) Slot.unset).toArray = ls at hl ⊢
  have hl : lv_has ls 14 [(0, .ref m0), (1, .int (nI k)), (2, .int 2)] := hl
  refine lv_aload_n hx hb dX9_findTone_0 rfl (lv_at hl 0 rfl) ?_
  refine lv_iload_n hx hb dX9_findTone_1 rfl (lv_at hl 1 rfl) ?_
  refine rVi hE ⟨hx, hb, hml, hown, hts⟩ (c_X9_kindOf l E m0 sh rO rU rT rg rS rB rP rG ab0 be0 mk rM md rN rL rZ rE rI hc rA rX lnn rV rW sl rC rF rQ rK rR rD k (hs1) (hs4) (hr8) (hk)) (cwV 1 hts gX9_findTone_X9_kindOf rfl rfl rfl (by decide +kernel) ⟨Nat.le_of_ble_eq_true rfl, Nat.le_of_ble_eq_true rfl⟩) (hP.sub [0] rfl) 0 9 rfl rfl rfl hl.1 rfl (Nat.le_of_ble_eq_true rfl) dX9_findTone_2 ⟨(Nat.zero_le _), (Nat.zero_le _)⟩ ?_
  rw [show (nI (kdN sh k) : Int32) = 0 from by rw [hkd]; rfl]
  refine lv_istore_n (lv' := [(3, .int 0), (0, .ref m0), (1, .int (nI k)), (2, .int 2)]) hx hb dX9_findTone_5 rfl hl (by decide) rfl (fun ls hl => ?_)
  refine lv_aload_n hx hb dX9_findTone_6 rfl (lv_at hl 1 rfl) ?_
  refine lv_iload_n hx hb dX9_findTone_7 rfl (lv_at hl 2 rfl) ?_
  refine rVi hE ⟨hx, hb, hml, hown, hts⟩ (c_X9_shaftOf l E m0 sh rO rU rT rg rS rB rP rG ab0 be0 mk rM md rN rL rZ rE rI hc rA rX lnn rV rW sl rC rF rQ rK rR rD Si k (hs1) (hs4) (hr8) (hk)) (cwV 1 hts gX9_findTone_X9_shaftOf rfl rfl rfl (by decide +kernel) ⟨Nat.le_of_ble_eq_true rfl, Nat.le_of_ble_eq_true rfl⟩) (hP.sub [0, 4] rfl) 0 9 rfl rfl rfl hl.1 rfl (Nat.le_of_ble_eq_true rfl) dX9_findTone_8 ⟨(Nat.zero_le _), (Nat.zero_le _)⟩ ?_
  refine lv_istore (lv' := [(4, .int (nI (seN sh Si k))), (3, .int 0), (0, .ref m0), (1, .int (nI k)), (2, .int 2)]) hx hb dX9_findTone_11 hl (by decide) rfl (fun ls hl => ?_)
  refine lv_iload_n hx hb dX9_findTone_13 rfl (lv_at hl 4 rfl) ?_
  refine lv_i2l (v := 2) hx hb dX9_findTone_14 (by decide) ?_
  refine lv_lconst (v := 1) hx hb dX9_findTone_15 (by decide) ?_
  refine lv_ladd hx hb dX9_findTone_16 ?_
  rw [show ((2 : Int64) + (1 : Int64) : Int64) = lN (3) from lN_add 2 1]
  refine lv_lstore (lv' := [(5, .long (lN (3))), (4, .int (nI (seN sh Si k))), (3, .int 0), (0, .ref m0), (1, .int (nI k)), (2, .int 2)]) hx hb dX9_findTone_17 hl (by decide) rfl (fun ls hl => ?_)
  refine lv_lconst (v := 1) hx hb dX9_findTone_19 (by decide) ?_
  refine lv_lstore (lv' := [(7, .long 1), (5, .long (lN (3))), (4, .int (nI (seN sh Si k))), (3, .int 0), (0, .ref m0), (1, .int (nI k)), (2, .int 2)]) hx hb dX9_findTone_20 hl (by decide) rfl (fun ls hl => ?_)
  refine lv_iload_n hx hb dX9_findTone_22 rfl (lv_at hl 3 rfl) ?_
  refine lv_iconst (v := 1) hx hb dX9_findTone_23 (by decide) ?_
  refine lv_icmp_ne (tgt := 45) hx hb dX9_findTone_24 (by decide) (fun c_24 => ?_) (fun c_24 => by exfalso; revert c_24; decide)
  refine lv_iload_n hx hb dX9_findTone_45 rfl (lv_at hl 3 rfl) ?_
  refine lv_iconst (v := 1) hx hb dX9_findTone_46 (by decide) ?_
  refine lv_icmp_le (tgt := 203) hx hb dX9_findTone_47 (by decide) (fun c_47 => ?_) (fun c_47 => by exfalso; revert c_47; decide)
  refine lv_aload_n hx hb dX9_findTone_203 rfl (lv_at hl 4 rfl) ?_
  refine lv_aload_n hx hb dX9_findTone_204 rfl (lv_at hl 4 rfl) ?_
  refine va_get (D := E.1) (ci := 9) (v := .ref rO) (C := RX9) (T := TX9) (N := 32) hx hb hts hinX9 hown hK hP 0 rfl rfl 1 (by decide) (hts (.fieldLink RX9 13 "WornRingsModel" "over" "[J") (by decide +kernel)) (fun _ h9 => h9) rfl dX9_findTone_205 ?_
  refine lv_iload hx hb dX9_findTone_208 (lv_at hl 2 rfl) ?_
  refine va_lald hx hb hK hP 1 2 rfl rfl (vp_in_nI (by omega) (by omega)) dX9_findTone_210 ?_
  rw [nI_clamp (n := seN sh Si k) (by omega)]
  refine W.eq (g2 := F0 m 211 ls [.long (lN (U (seN sh Si k))), .ref m0]) rfl ?_
  refine lv_lload hx hb dX9_findTone_211 (lv_at hl 1 rfl) ?_
  refine lv_lmul hx hb dX9_findTone_213 ?_
  rw [show ((lN (U (seN sh Si k))) * lN (3) : Int64) = lN ((U (seN sh Si k)) * 3) from lN_mul (U (seN sh Si k)) 3]
  refine lv_aload_n hx hb dX9_findTone_214 rfl (lv_at hl 4 rfl) ?_
  refine va_get (D := E.1) (ci := 9) (v := .ref rU) (C := RX9) (T := TX9) (N := 32) hx hb hts hinX9 hown hK hP 0 rfl rfl 2 (by decide) (hts (.fieldLink RX9 17 "WornRingsModel" "under" "[J") (by decide +kernel)) (fun _ h9 => h9) rfl dX9_findTone_215 ?_
  refine lv_iload hx hb dX9_findTone_218 (lv_at hl 2 rfl) ?_
  refine va_lald hx hb hK hP 2 2 rfl rfl (vp_in_nI (by omega) (by omega)) dX9_findTone_220 ?_
  rw [nI_clamp (n := seN sh Si k) (by omega)]
  refine W.eq (g2 := F0 m 221 ls [.long (lN (V (seN sh Si k))), .long (lN ((U (seN sh Si k)) * 3)), .ref m0]) rfl ?_
  refine lv_lload hx hb dX9_findTone_221 (lv_at hl 0 rfl) ?_
  refine lv_lmul hx hb dX9_findTone_223 ?_
  rw [show ((lN (V (seN sh Si k))) * (1 : Int64) : Int64) = lN ((V (seN sh Si k)) * 1) from lN_mul (V (seN sh Si k)) 1]
  refine wVv (wr := [(rO, .inl (E.2 2, 4, .inr (.inl (lA U)))), (rU, .inl (E.2 2, 4, .inr (.inl (lA V)))), (rT, .inl (E.2 1, 4, .inl (nA Te))), (rS, .inl (E.2 1, 8, .inl (nA Si))), (rB, .inl (E.2 1, 8, .inl (nA Ba))), (rP, .inl (E.2 1, 8, .inl (nA Sm))), (rG, .inl (E.2 1, 8, .inl (nA Gr)))]) hE ⟨hx, hb, hml, hown, hts⟩ (c_X9_reduce l E s.heap.size m0 (nI sh) rO rU rT (nI rg) rS rB rP rG ab0 be0 mk rM md rN rL rZ rE rI hc rA rX lnn rV rW sl rC rF rQ rK rR rD ((U (seN sh Si k)) * 3) ((V (seN sh Si k)) * 1) (Nat.mul_pos hU1 (by omega)) (Nat.lt_of_le_of_lt (Nat.mul_le_mul hU2 (show _ ≤ 20000 by omega)) (by decide)) (Nat.mul_pos hV1 (by omega)) (Nat.lt_of_le_of_lt (Nat.mul_le_mul hV2 (show _ ≤ 20000 by omega)) (by decide))) (cwV 2 hts gX9_findTone_X9_reduce rfl rfl rfl (by decide +kernel) ⟨Nat.le_of_ble_eq_true rfl, Nat.le_of_ble_eq_true rfl⟩) hP hD hS hA [0] [1, 2, 3, 4, 5, 6, 7] rfl rfl (by decide) (by decide) (by decide) 0 9 rfl rfl rfl hl.1 rfl (Nat.le_of_ble_eq_true rfl) dX9_findTone_224 ⟨(Nat.zero_le _), (Nat.zero_le _)⟩ (fun u H locs hw hP hD hS => ?_)
  have hP : va_P E.1 vwCl [(rO, .inl (E.2 2, 4, .inr (.inl (lA U)))), (rU, .inl (E.2 2, 4, .inr (.inl (lA V)))), (rT, .inl (E.2 1, 4, .inl (nA Te))), (rS, .inl (E.2 1, 8, .inl (nA Si))), (rB, .inl (E.2 1, 8, .inl (nA Ba))), (rP, .inl (E.2 1, 8, .inl (nA Sm))), (rG, .inl (E.2 1, 8, .inl (nA Gr))), (m0, .inr (9, [.int (nI sh), .ref rO, .ref rU, .ref rT, .int (nI rg), .ref rS, .ref rB, .ref rP, .ref rG, .long (lN (tA ((U (seN sh Si k)) * 3) ((V (seN sh Si k)) * 1))), .long (lN (tB ((U (seN sh Si k)) * 3) ((V (seN sh Si k)) * 1))), .int mk, .ref rM, .int md, .ref rN, .ref rL, .ref rZ, .ref rE, .ref rI, .int hc, .ref rA, .ref rX, .int lnn, .ref rV, .ref rW, .int sl, .ref rC, .ref rF, .ref rQ, .ref rK, .ref rR, .ref rD]))] H := hP
  have hD : va_D A [(rO, .inl (E.2 2, 4, .inr (.inl (lA U)))), (rU, .inl (E.2 2, 4, .inr (.inl (lA V)))), (rT, .inl (E.2 1, 4, .inl (nA Te))), (rS, .inl (E.2 1, 8, .inl (nA Si))), (rB, .inl (E.2 1, 8, .inl (nA Ba))), (rP, .inl (E.2 1, 8, .inl (nA Sm))), (rG, .inl (E.2 1, 8, .inl (nA Gr))), (m0, .inr (9, [.int (nI sh), .ref rO, .ref rU, .ref rT, .int (nI rg), .ref rS, .ref rB, .ref rP, .ref rG, .long (lN (tA ((U (seN sh Si k)) * 3) ((V (seN sh Si k)) * 1))), .long (lN (tB ((U (seN sh Si k)) * 3) ((V (seN sh Si k)) * 1))), .int mk, .ref rM, .int md, .ref rN, .ref rL, .ref rZ, .ref rE, .ref rI, .int hc, .ref rA, .ref rX, .int lnn, .ref rV, .ref rW, .int sl, .ref rC, .ref rF, .ref rQ, .ref rK, .ref rR, .ref rD]))] := hD
  have e9 : ([(m0, .inr (9, [.int (nI sh), .ref rO, .ref rU, .ref rT, .int (nI rg), .ref rS, .ref rB, .ref rP, .ref rG, .long (lN (tA (U (seN sh Si k) * (3)) (V (seN sh Si k) * (1)))), .long (lN (tB (U (seN sh Si k) * (3)) (V (seN sh Si k) * (1)))), .int mk, .ref rM, .int md, .ref rN, .ref rL, .ref rZ, .ref rE, .ref rI, .int hc, .ref rA, .ref rX, .int lnn, .ref rV, .ref rW, .int sl, .ref rC, .ref rF, .ref rQ, .ref rK, .ref rR, .ref rD])), (rO, .inl (E.2 2, 4, .inr (.inl (lA U)))), (rU, .inl (E.2 2, 4, .inr (.inl (lA V)))), (rT, .inl (E.2 1, 4, .inl (nA Te))), (rS, .inl (E.2 1, 8, .inl (nA Si))), (rB, .inl (E.2 1, 8, .inl (nA Ba))), (rP, .inl (E.2 1, 8, .inl (nA Sm))), (rG, .inl (E.2 1, 8, .inl (nA Gr)))] : va_W) = [(m0, .inr (9, [.int (nI sh), .ref rO, .ref rU, .ref rT, .int (nI rg), .ref rS, .ref rB, .ref rP, .ref rG, .long (lN (tA ((U (seN sh Si k)) * 3) ((V (seN sh Si k)) * 1))), .long (lN (tB ((U (seN sh Si k)) * 3) ((V (seN sh Si k)) * 1))), .int mk, .ref rM, .int md, .ref rN, .ref rL, .ref rZ, .ref rE, .ref rI, .int hc, .ref rA, .ref rX, .int lnn, .ref rV, .ref rW, .int sl, .ref rC, .ref rF, .ref rQ, .ref rK, .ref rR, .ref rD])), (rO, .inl (E.2 2, 4, .inr (.inl (lA U)))), (rU, .inl (E.2 2, 4, .inr (.inl (lA V)))), (rT, .inl (E.2 1, 4, .inl (nA Te))), (rS, .inl (E.2 1, 8, .inl (nA Si))), (rB, .inl (E.2 1, 8, .inl (nA Ba))), (rP, .inl (E.2 1, 8, .inl (nA Sm))), (rG, .inl (E.2 1, 8, .inl (nA Gr)))] := by rfl
  have hP9 : va_P E.1 vwCl [(m0, .inr (9, [.int (nI sh), .ref rO, .ref rU, .ref rT, .int (nI rg), .ref rS, .ref rB, .ref rP, .ref rG, .long (lN (tA (U (seN sh Si k) * (3)) (V (seN sh Si k) * (1)))), .long (lN (tB (U (seN sh Si k) * (3)) (V (seN sh Si k) * (1)))), .int mk, .ref rM, .int md, .ref rN, .ref rL, .ref rZ, .ref rE, .ref rI, .int hc, .ref rA, .ref rX, .int lnn, .ref rV, .ref rW, .int sl, .ref rC, .ref rF, .ref rQ, .ref rK, .ref rR, .ref rD])), (rO, .inl (E.2 2, 4, .inr (.inl (lA U)))), (rU, .inl (E.2 2, 4, .inr (.inl (lA V)))), (rT, .inl (E.2 1, 4, .inl (nA Te))), (rS, .inl (E.2 1, 8, .inl (nA Si))), (rB, .inl (E.2 1, 8, .inl (nA Ba))), (rP, .inl (E.2 1, 8, .inl (nA Sm))), (rG, .inl (E.2 1, 8, .inl (nA Gr)))] H := by rw [e9]; exact hP.sub [7, 0, 1, 2, 3, 4, 5, 6] rfl
  have hD9 : va_D A [(m0, .inr (9, [.int (nI sh), .ref rO, .ref rU, .ref rT, .int (nI rg), .ref rS, .ref rB, .ref rP, .ref rG, .long (lN (tA (U (seN sh Si k) * (3)) (V (seN sh Si k) * (1)))), .long (lN (tB (U (seN sh Si k) * (3)) (V (seN sh Si k) * (1)))), .int mk, .ref rM, .int md, .ref rN, .ref rL, .ref rZ, .ref rE, .ref rI, .int hc, .ref rA, .ref rX, .int lnn, .ref rV, .ref rW, .int sl, .ref rC, .ref rF, .ref rQ, .ref rK, .ref rR, .ref rD])), (rO, .inl (E.2 2, 4, .inr (.inl (lA U)))), (rU, .inl (E.2 2, 4, .inr (.inl (lA V)))), (rT, .inl (E.2 1, 4, .inl (nA Te))), (rS, .inl (E.2 1, 8, .inl (nA Si))), (rB, .inl (E.2 1, 8, .inl (nA Ba))), (rP, .inl (E.2 1, 8, .inl (nA Sm))), (rG, .inl (E.2 1, 8, .inl (nA Gr)))] := by rw [e9]; exact hD.sub [7, 0, 1, 2, 3, 4, 5, 6] (by decide) rfl
  exact W.vret hx hb hr (fun t9 ht9 hW9 => ⟨⟨(), rfl, trivial, ⟨by rw [ht9]; exact hP9, hD9⟩⟩, hS.F ht9⟩) hS.2.2 dX9_findTone_227
set_option maxHeartbeats 1000000 in
set_option maxRecDepth 100000 in
theorem c_X9_findTone_1_0 (l : Launch) (E : EnvT) (sz : Nat) (m0 : Nat) (sh : Nat) (rO : Nat) (rU : Nat) (rT : Nat) (rg : Nat) (rS : Nat) (rB : Nat) (rP : Nat) (rG : Nat) (ab0 : Int64) (be0 : Int64) (mk : Int32) (rM : Nat) (md : Int32) (rN : Nat) (rL : Nat) (rZ : Nat) (rE : Nat) (rI : Nat) (hc : Int32) (rA : Nat) (rX : Nat) (lnn : Int32) (rV : Nat) (rW : Nat) (sl : Int32) (rC : Nat) (rF : Nat) (rQ : Nat) (rK : Nat) (rR : Nat) (rD : Nat) (U : Nat → Nat) (V : Nat → Nat) (Te : Nat → Nat) (Si : Nat → Nat) (Ba : Nat → Nat) (Sm : Nat → Nat) (Gr : Nat → Nat) (k : Nat) (hs1 : 1 ≤ sh) (hs4 : sh ≤ 4) (hr8 : rg ≤ 8) (hk : k < 2 * sh - 1 + 4 * rg) (hse : seN sh Si k < 4) (hU1 : 0 < U (seN sh Si k)) (hU2 : U (seN sh Si k) ≤ 8000000) (hV1 : 0 < V (seN sh Si k)) (hV2 : V (seN sh Si k) ≤ 8000000) (hkd : kdN sh k = 1) (ht1 : 5 ≤ Te (seN sh Si k)) (ht2 : Te (seN sh Si k) ≤ 200) : Met l yX9_findTone wsX9_findTone ({ frames := 2, cells := 0, slots := 0, locals := 42 }) (va_Pc [.ref m0, .int (nI k), .int 0] (PW E [(m0, .inr (9, [.int (nI sh), .ref rO, .ref rU, .ref rT, .int (nI rg), .ref rS, .ref rB, .ref rP, .ref rG, .long ab0, .long be0, .int mk, .ref rM, .int md, .ref rN, .ref rL, .ref rZ, .ref rE, .ref rI, .int hc, .ref rA, .ref rX, .int lnn, .ref rV, .ref rW, .int sl, .ref rC, .ref rF, .ref rQ, .ref rK, .ref rR, .ref rD])), (rO, .inl (E.2 2, 4, .inr (.inl (lA U)))), (rU, .inl (E.2 2, 4, .inr (.inl (lA V)))), (rT, .inl (E.2 1, 4, .inl (nA Te))), (rS, .inl (E.2 1, 8, .inl (nA Si))), (rB, .inl (E.2 1, 8, .inl (nA Ba))), (rP, .inl (E.2 1, 8, .inl (nA Sm))), (rG, .inl (E.2 1, 8, .inl (nA Gr)))] sz)) (va_Qv (fun (uu : Unit) => True) (fun (uu : Unit) t => BW E (va_A [(m0, .inr (9, [.int (nI sh), .ref rO, .ref rU, .ref rT, .int (nI rg), .ref rS, .ref rB, .ref rP, .ref rG, .long ab0, .long be0, .int mk, .ref rM, .int md, .ref rN, .ref rL, .ref rZ, .ref rE, .ref rI, .int hc, .ref rA, .ref rX, .int lnn, .ref rV, .ref rW, .int sl, .ref rC, .ref rF, .ref rQ, .ref rK, .ref rR, .ref rD])), (rO, .inl (E.2 2, 4, .inr (.inl (lA U)))), (rU, .inl (E.2 2, 4, .inr (.inl (lA V)))), (rT, .inl (E.2 1, 4, .inl (nA Te))), (rS, .inl (E.2 1, 8, .inl (nA Si))), (rB, .inl (E.2 1, 8, .inl (nA Ba))), (rP, .inl (E.2 1, 8, .inl (nA Sm))), (rG, .inl (E.2 1, 8, .inl (nA Gr)))] sz) [(m0, .inr (9, [.int (nI sh), .ref rO, .ref rU, .ref rT, .int (nI rg), .ref rS, .ref rB, .ref rP, .ref rG, .long (lN (tA (U (seN sh Si k) * (1 * Te (seN sh Si k))) (V (seN sh Si k) * (1)))), .long (lN (tB (U (seN sh Si k) * (1 * Te (seN sh Si k))) (V (seN sh Si k) * (1)))), .int mk, .ref rM, .int md, .ref rN, .ref rL, .ref rZ, .ref rE, .ref rI, .int hc, .ref rA, .ref rX, .int lnn, .ref rV, .ref rW, .int sl, .ref rC, .ref rF, .ref rQ, .ref rK, .ref rR, .ref rD])), (rO, .inl (E.2 2, 4, .inr (.inl (lA U)))), (rU, .inl (E.2 2, 4, .inr (.inl (lA V)))), (rT, .inl (E.2 1, 4, .inl (nA Te))), (rS, .inl (E.2 1, 8, .inl (nA Si))), (rB, .inl (E.2 1, 8, .inl (nA Ba))), (rP, .inl (E.2 1, 8, .inl (nA Sm))), (rG, .inl (E.2 1, 8, .inl (nA Gr)))] t) (va_A [(m0, .inr (9, [.int (nI sh), .ref rO, .ref rU, .ref rT, .int (nI rg), .ref rS, .ref rB, .ref rP, .ref rG, .long ab0, .long be0, .int mk, .ref rM, .int md, .ref rN, .ref rL, .ref rZ, .ref rE, .ref rI, .int hc, .ref rA, .ref rX, .int lnn, .ref rV, .ref rW, .int sl, .ref rC, .ref rF, .ref rQ, .ref rK, .ref rR, .ref rD])), (rO, .inl (E.2 2, 4, .inr (.inl (lA U)))), (rU, .inl (E.2 2, 4, .inr (.inl (lA V)))), (rT, .inl (E.2 1, 4, .inl (nA Te))), (rS, .inl (E.2 1, 8, .inl (nA Si))), (rB, .inl (E.2 1, 8, .inl (nA Ba))), (rP, .inl (E.2 1, 8, .inl (nA Sm))), (rG, .inl (E.2 1, 8, .inl (nA Gr)))] sz)) 0 0 (va_A [(m0, .inr (9, [.int (nI sh), .ref rO, .ref rU, .ref rT, .int (nI rg), .ref rS, .ref rB, .ref rP, .ref rG, .long ab0, .long be0, .int mk, .ref rM, .int md, .ref rN, .ref rL, .ref rZ, .ref rE, .ref rI, .int hc, .ref rA, .ref rX, .int lnn, .ref rV, .ref rW, .int sl, .ref rC, .ref rF, .ref rQ, .ref rK, .ref rR, .ref rD])), (rO, .inl (E.2 2, 4, .inr (.inl (lA U)))), (rU, .inl (E.2 2, 4, .inr (.inl (lA V)))), (rT, .inl (E.2 1, 4, .inl (nA Te))), (rS, .inl (E.2 1, 8, .inl (nA Si))), (rB, .inl (E.2 1, 8, .inl (nA Ba))), (rP, .inl (E.2 1, 8, .inl (nA Sm))), (rG, .inl (E.2 1, 8, .inl (nA Gr)))] sz) := by
  refine Met.ofW (cc := cX9_findTone) (maxL := 14) (ret := none) (by decide +kernel) rfl ?_
  intro p e s m args below meth c s₁ B hml hv
  obtain ⟨rfl, hsz, hP, hE, hD0⟩ := hv
  have hx := B.exec
  have hb := B.bytes
  have hr := B.returns
  have hts := atoms_spec (ws := wsX9_findTone) B.pre
  have hown : s.vm.findClass RX9 = some m.cls := findClass_of_methodNamed B.named
  have hlocks := B.notSynchronized
  have hK := hE.1
  have hNN := hE.2.1
  have hinX9 : ∀ w ∈ wsX90, w ∈ wsX9_findTone := fun w h => List.mem_cons_of_mem _ (List.mem_append_right _ h)
  subst hsz
  have hD := hD0.self (sz := s.heap.size)
  generalize hAe : va_A [(m0, .inr (9, [.int (nI sh), .ref rO, .ref rU, .ref rT, .int (nI rg), .ref rS, .ref rB, .ref rP, .ref rG, .long ab0, .long be0, .int mk, .ref rM, .int md, .ref rN, .ref rL, .ref rZ, .ref rE, .ref rI, .int hc, .ref rA, .ref rX, .int lnn, .ref rV, .ref rW, .int sl, .ref rC, .ref rF, .ref rQ, .ref rK, .ref rR, .ref rD])), (rO, .inl (E.2 2, 4, .inr (.inl (lA U)))), (rU, .inl (E.2 2, 4, .inr (.inl (lA V)))), (rT, .inl (E.2 1, 4, .inl (nA Te))), (rS, .inl (E.2 1, 8, .inl (nA Si))), (rB, .inl (E.2 1, 8, .inl (nA Ba))), (rP, .inl (E.2 1, 8, .inl (nA Sm))), (rG, .inl (E.2 1, 8, .inl (nA Gr)))] s.heap.size = A at hD ⊢
  have hA : ∀ q : Nat, s.heap.size ≤ q → A q := fun q h => by rw [← hAe]; exact Or.inr h
  have hS : va_S A s.heap s.heap [] := va_S.rf
  have hl := lv_entry ([.ref m0, .int (nI k), .int 0]) (n := 14) (Nat.le_of_ble_eq_true rfl)
  rw [lg_entry_eq]
  generalize (lg_sl ([.ref m0, .int (nI k), .int 0]) ++ List.replicate (14 - (lg_sl ([.ref m0, .int (nI k), .int 0])).length) Slot.unset).toArray = ls at hl ⊢
  have hl : lv_has ls 14 [(0, .ref m0), (1, .int (nI k)), (2, .int 0)] := hl
  refine lv_aload_n hx hb dX9_findTone_0 rfl (lv_at hl 0 rfl) ?_
  refine lv_iload_n hx hb dX9_findTone_1 rfl (lv_at hl 1 rfl) ?_
  refine rVi hE ⟨hx, hb, hml, hown, hts⟩ (c_X9_kindOf l E m0 sh rO rU rT rg rS rB rP rG ab0 be0 mk rM md rN rL rZ rE rI hc rA rX lnn rV rW sl rC rF rQ rK rR rD k (hs1) (hs4) (hr8) (hk)) (cwV 1 hts gX9_findTone_X9_kindOf rfl rfl rfl (by decide +kernel) ⟨Nat.le_of_ble_eq_true rfl, Nat.le_of_ble_eq_true rfl⟩) (hP.sub [0] rfl) 0 9 rfl rfl rfl hl.1 rfl (Nat.le_of_ble_eq_true rfl) dX9_findTone_2 ⟨(Nat.zero_le _), (Nat.zero_le _)⟩ ?_
  rw [show (nI (kdN sh k) : Int32) = 1 from by rw [hkd]; rfl]
  refine lv_istore_n (lv' := [(3, .int 1), (0, .ref m0), (1, .int (nI k)), (2, .int 0)]) hx hb dX9_findTone_5 rfl hl (by decide) rfl (fun ls hl => ?_)
  refine lv_aload_n hx hb dX9_findTone_6 rfl (lv_at hl 1 rfl) ?_
  refine lv_iload_n hx hb dX9_findTone_7 rfl (lv_at hl 2 rfl) ?_
  refine rVi hE ⟨hx, hb, hml, hown, hts⟩ (c_X9_shaftOf l E m0 sh rO rU rT rg rS rB rP rG ab0 be0 mk rM md rN rL rZ rE rI hc rA rX lnn rV rW sl rC rF rQ rK rR rD Si k (hs1) (hs4) (hr8) (hk)) (cwV 1 hts gX9_findTone_X9_shaftOf rfl rfl rfl (by decide +kernel) ⟨Nat.le_of_ble_eq_true rfl, Nat.le_of_ble_eq_true rfl⟩) (hP.sub [0, 4] rfl) 0 9 rfl rfl rfl hl.1 rfl (Nat.le_of_ble_eq_true rfl) dX9_findTone_8 ⟨(Nat.zero_le _), (Nat.zero_le _)⟩ ?_
  refine lv_istore (lv' := [(4, .int (nI (seN sh Si k))), (3, .int 1), (0, .ref m0), (1, .int (nI k)), (2, .int 0)]) hx hb dX9_findTone_11 hl (by decide) rfl (fun ls hl => ?_)
  refine lv_iload_n hx hb dX9_findTone_13 rfl (lv_at hl 4 rfl) ?_
  refine lv_i2l (v := 0) hx hb dX9_findTone_14 (by decide) ?_
  refine lv_lconst (v := 1) hx hb dX9_findTone_15 (by decide) ?_
  refine lv_ladd hx hb dX9_findTone_16 ?_
  rw [show ((0 : Int64) + (1 : Int64) : Int64) = lN (1) from lN_add 0 1]
  refine lv_lstore (lv' := [(5, .long (lN (1))), (4, .int (nI (seN sh Si k))), (3, .int 1), (0, .ref m0), (1, .int (nI k)), (2, .int 0)]) hx hb dX9_findTone_17 hl (by decide) rfl (fun ls hl => ?_)
  refine lv_lconst (v := 1) hx hb dX9_findTone_19 (by decide) ?_
  refine lv_lstore (lv' := [(7, .long 1), (5, .long (lN (1))), (4, .int (nI (seN sh Si k))), (3, .int 1), (0, .ref m0), (1, .int (nI k)), (2, .int 0)]) hx hb dX9_findTone_20 hl (by decide) rfl (fun ls hl => ?_)
  refine lv_iload_n hx hb dX9_findTone_22 rfl (lv_at hl 3 rfl) ?_
  refine lv_iconst (v := 1) hx hb dX9_findTone_23 (by decide) ?_
  refine lv_icmp_ne (tgt := 45) hx hb dX9_findTone_24 (by decide) (fun c_24 => by exfalso; revert c_24; decide) (fun c_24 => ?_)
  refine lv_iload_n hx hb dX9_findTone_27 rfl (lv_at hl 6 rfl) ?_
  refine lv_i2l (v := 0) hx hb dX9_findTone_28 (by decide) ?_
  refine lv_lconst (v := 1) hx hb dX9_findTone_29 (by decide) ?_
  refine lv_ladd hx hb dX9_findTone_30 ?_
  rw [show ((0 : Int64) + (1 : Int64) : Int64) = lN (1) from lN_add 0 1]
  refine lv_aload_n hx hb dX9_findTone_31 rfl (lv_at hl 4 rfl) ?_
  refine va_get (D := E.1) (ci := 9) (v := .ref rT) (C := RX9) (T := TX9) (N := 32) hx hb hts hinX9 hown hK hP 0 rfl rfl 3 (by decide) (hts (.fieldLink RX9 20 "WornRingsModel" "teeth" "[I") (by decide +kernel)) (fun _ h9 => h9) rfl dX9_findTone_32 ?_
  refine lv_iload hx hb dX9_findTone_35 (lv_at hl 2 rfl) ?_
  refine va_iald hx hb hK hP 3 1 rfl rfl (vp_in_nI (by omega) (by omega)) dX9_findTone_37 ?_
  rw [nI_clamp (n := seN sh Si k) (by omega)]
  refine W.eq (g2 := F0 m 38 ls [.int (nI (Te (seN sh Si k))), .long (lN (1))]) rfl ?_
  refine lv_i2l (v := lN (Te (seN sh Si k))) hx hb dX9_findTone_38 (nI_l (by omega)) ?_
  refine lv_lmul hx hb dX9_findTone_39 ?_
  rw [show (lN (1) * (lN (Te (seN sh Si k))) : Int64) = lN (1 * (Te (seN sh Si k))) from lN_mul 1 (Te (seN sh Si k))]
  refine lv_lstore (lv' := [(5, .long (lN (1 * (Te (seN sh Si k))))), (7, .long 1), (4, .int (nI (seN sh Si k))), (3, .int 1), (0, .ref m0), (1, .int (nI k)), (2, .int 0)]) hx hb dX9_findTone_40 hl (by decide) rfl (fun ls hl => ?_)
  refine lv_goto (tgt := 203) hx hb dX9_findTone_42 (by decide) ?_
  refine lv_aload_n hx hb dX9_findTone_203 rfl (lv_at hl 4 rfl) ?_
  refine lv_aload_n hx hb dX9_findTone_204 rfl (lv_at hl 4 rfl) ?_
  refine va_get (D := E.1) (ci := 9) (v := .ref rO) (C := RX9) (T := TX9) (N := 32) hx hb hts hinX9 hown hK hP 0 rfl rfl 1 (by decide) (hts (.fieldLink RX9 13 "WornRingsModel" "over" "[J") (by decide +kernel)) (fun _ h9 => h9) rfl dX9_findTone_205 ?_
  refine lv_iload hx hb dX9_findTone_208 (lv_at hl 2 rfl) ?_
  refine va_lald hx hb hK hP 1 2 rfl rfl (vp_in_nI (by omega) (by omega)) dX9_findTone_210 ?_
  rw [nI_clamp (n := seN sh Si k) (by omega)]
  refine W.eq (g2 := F0 m 211 ls [.long (lN (U (seN sh Si k))), .ref m0]) rfl ?_
  refine lv_lload hx hb dX9_findTone_211 (lv_at hl 0 rfl) ?_
  refine lv_lmul hx hb dX9_findTone_213 ?_
  rw [show ((lN (U (seN sh Si k))) * (lN (1 * (Te (seN sh Si k)))) : Int64) = lN ((U (seN sh Si k)) * (1 * (Te (seN sh Si k)))) from lN_mul (U (seN sh Si k)) (1 * (Te (seN sh Si k)))]
  refine lv_aload_n hx hb dX9_findTone_214 rfl (lv_at hl 4 rfl) ?_
  refine va_get (D := E.1) (ci := 9) (v := .ref rU) (C := RX9) (T := TX9) (N := 32) hx hb hts hinX9 hown hK hP 0 rfl rfl 2 (by decide) (hts (.fieldLink RX9 17 "WornRingsModel" "under" "[J") (by decide +kernel)) (fun _ h9 => h9) rfl dX9_findTone_215 ?_
  refine lv_iload hx hb dX9_findTone_218 (lv_at hl 2 rfl) ?_
  refine va_lald hx hb hK hP 2 2 rfl rfl (vp_in_nI (by omega) (by omega)) dX9_findTone_220 ?_
  rw [nI_clamp (n := seN sh Si k) (by omega)]
  refine W.eq (g2 := F0 m 221 ls [.long (lN (V (seN sh Si k))), .long (lN ((U (seN sh Si k)) * (1 * (Te (seN sh Si k))))), .ref m0]) rfl ?_
  refine lv_lload hx hb dX9_findTone_221 (lv_at hl 1 rfl) ?_
  refine lv_lmul hx hb dX9_findTone_223 ?_
  rw [show ((lN (V (seN sh Si k))) * (1 : Int64) : Int64) = lN ((V (seN sh Si k)) * 1) from lN_mul (V (seN sh Si k)) 1]
  refine wVv (wr := [(rO, .inl (E.2 2, 4, .inr (.inl (lA U)))), (rU, .inl (E.2 2, 4, .inr (.inl (lA V)))), (rT, .inl (E.2 1, 4, .inl (nA Te))), (rS, .inl (E.2 1, 8, .inl (nA Si))), (rB, .inl (E.2 1, 8, .inl (nA Ba))), (rP, .inl (E.2 1, 8, .inl (nA Sm))), (rG, .inl (E.2 1, 8, .inl (nA Gr)))]) hE ⟨hx, hb, hml, hown, hts⟩ (c_X9_reduce l E s.heap.size m0 (nI sh) rO rU rT (nI rg) rS rB rP rG ab0 be0 mk rM md rN rL rZ rE rI hc rA rX lnn rV rW sl rC rF rQ rK rR rD ((U (seN sh Si k)) * (1 * (Te (seN sh Si k)))) ((V (seN sh Si k)) * 1) (Nat.mul_pos hU1 (by omega)) (Nat.lt_of_le_of_lt (Nat.mul_le_mul hU2 (show _ ≤ 20000 by omega)) (by decide)) (Nat.mul_pos hV1 (by omega)) (Nat.lt_of_le_of_lt (Nat.mul_le_mul hV2 (show _ ≤ 20000 by omega)) (by decide))) (cwV 2 hts gX9_findTone_X9_reduce rfl rfl rfl (by decide +kernel) ⟨Nat.le_of_ble_eq_true rfl, Nat.le_of_ble_eq_true rfl⟩) hP hD hS hA [0] [1, 2, 3, 4, 5, 6, 7] rfl rfl (by decide) (by decide) (by decide) 0 9 rfl rfl rfl hl.1 rfl (Nat.le_of_ble_eq_true rfl) dX9_findTone_224 ⟨(Nat.zero_le _), (Nat.zero_le _)⟩ (fun u H locs hw hP hD hS => ?_)
  have hP : va_P E.1 vwCl [(rO, .inl (E.2 2, 4, .inr (.inl (lA U)))), (rU, .inl (E.2 2, 4, .inr (.inl (lA V)))), (rT, .inl (E.2 1, 4, .inl (nA Te))), (rS, .inl (E.2 1, 8, .inl (nA Si))), (rB, .inl (E.2 1, 8, .inl (nA Ba))), (rP, .inl (E.2 1, 8, .inl (nA Sm))), (rG, .inl (E.2 1, 8, .inl (nA Gr))), (m0, .inr (9, [.int (nI sh), .ref rO, .ref rU, .ref rT, .int (nI rg), .ref rS, .ref rB, .ref rP, .ref rG, .long (lN (tA ((U (seN sh Si k)) * (1 * (Te (seN sh Si k)))) ((V (seN sh Si k)) * 1))), .long (lN (tB ((U (seN sh Si k)) * (1 * (Te (seN sh Si k)))) ((V (seN sh Si k)) * 1))), .int mk, .ref rM, .int md, .ref rN, .ref rL, .ref rZ, .ref rE, .ref rI, .int hc, .ref rA, .ref rX, .int lnn, .ref rV, .ref rW, .int sl, .ref rC, .ref rF, .ref rQ, .ref rK, .ref rR, .ref rD]))] H := hP
  have hD : va_D A [(rO, .inl (E.2 2, 4, .inr (.inl (lA U)))), (rU, .inl (E.2 2, 4, .inr (.inl (lA V)))), (rT, .inl (E.2 1, 4, .inl (nA Te))), (rS, .inl (E.2 1, 8, .inl (nA Si))), (rB, .inl (E.2 1, 8, .inl (nA Ba))), (rP, .inl (E.2 1, 8, .inl (nA Sm))), (rG, .inl (E.2 1, 8, .inl (nA Gr))), (m0, .inr (9, [.int (nI sh), .ref rO, .ref rU, .ref rT, .int (nI rg), .ref rS, .ref rB, .ref rP, .ref rG, .long (lN (tA ((U (seN sh Si k)) * (1 * (Te (seN sh Si k)))) ((V (seN sh Si k)) * 1))), .long (lN (tB ((U (seN sh Si k)) * (1 * (Te (seN sh Si k)))) ((V (seN sh Si k)) * 1))), .int mk, .ref rM, .int md, .ref rN, .ref rL, .ref rZ, .ref rE, .ref rI, .int hc, .ref rA, .ref rX, .int lnn, .ref rV, .ref rW, .int sl, .ref rC, .ref rF, .ref rQ, .ref rK, .ref rR, .ref rD]))] := hD
  have e9 : ([(m0, .inr (9, [.int (nI sh), .ref rO, .ref rU, .ref rT, .int (nI rg), .ref rS, .ref rB, .ref rP, .ref rG, .long (lN (tA (U (seN sh Si k) * (1 * Te (seN sh Si k))) (V (seN sh Si k) * (1)))), .long (lN (tB (U (seN sh Si k) * (1 * Te (seN sh Si k))) (V (seN sh Si k) * (1)))), .int mk, .ref rM, .int md, .ref rN, .ref rL, .ref rZ, .ref rE, .ref rI, .int hc, .ref rA, .ref rX, .int lnn, .ref rV, .ref rW, .int sl, .ref rC, .ref rF, .ref rQ, .ref rK, .ref rR, .ref rD])), (rO, .inl (E.2 2, 4, .inr (.inl (lA U)))), (rU, .inl (E.2 2, 4, .inr (.inl (lA V)))), (rT, .inl (E.2 1, 4, .inl (nA Te))), (rS, .inl (E.2 1, 8, .inl (nA Si))), (rB, .inl (E.2 1, 8, .inl (nA Ba))), (rP, .inl (E.2 1, 8, .inl (nA Sm))), (rG, .inl (E.2 1, 8, .inl (nA Gr)))] : va_W) = [(m0, .inr (9, [.int (nI sh), .ref rO, .ref rU, .ref rT, .int (nI rg), .ref rS, .ref rB, .ref rP, .ref rG, .long (lN (tA ((U (seN sh Si k)) * (1 * (Te (seN sh Si k)))) ((V (seN sh Si k)) * 1))), .long (lN (tB ((U (seN sh Si k)) * (1 * (Te (seN sh Si k)))) ((V (seN sh Si k)) * 1))), .int mk, .ref rM, .int md, .ref rN, .ref rL, .ref rZ, .ref rE, .ref rI, .int hc, .ref rA, .ref rX, .int lnn, .ref rV, .ref rW, .int sl, .ref rC, .ref rF, .ref rQ, .ref rK, .ref rR, .ref rD])), (rO, .inl (E.2 2, 4, .inr (.inl (lA U)))), (rU, .inl (E.2 2, 4, .inr (.inl (lA V)))), (rT, .inl (E.2 1, 4, .inl (nA Te))), (rS, .inl (E.2 1, 8, .inl (nA Si))), (rB, .inl (E.2 1, 8, .inl (nA Ba))), (rP, .inl (E.2 1, 8, .inl (nA Sm))), (rG, .inl (E.2 1, 8, .inl (nA Gr)))] := by rfl
  have hP9 : va_P E.1 vwCl [(m0, .inr (9, [.int (nI sh), .ref rO, .ref rU, .ref rT, .int (nI rg), .ref rS, .ref rB, .ref rP, .ref rG, .long (lN (tA (U (seN sh Si k) * (1 * Te (seN sh Si k))) (V (seN sh Si k) * (1)))), .long (lN (tB (U (seN sh Si k) * (1 * Te (seN sh Si k))) (V (seN sh Si k) * (1)))), .int mk, .ref rM, .int md, .ref rN, .ref rL, .ref rZ, .ref rE, .ref rI, .int hc, .ref rA, .ref rX, .int lnn, .ref rV, .ref rW, .int sl, .ref rC, .ref rF, .ref rQ, .ref rK, .ref rR, .ref rD])), (rO, .inl (E.2 2, 4, .inr (.inl (lA U)))), (rU, .inl (E.2 2, 4, .inr (.inl (lA V)))), (rT, .inl (E.2 1, 4, .inl (nA Te))), (rS, .inl (E.2 1, 8, .inl (nA Si))), (rB, .inl (E.2 1, 8, .inl (nA Ba))), (rP, .inl (E.2 1, 8, .inl (nA Sm))), (rG, .inl (E.2 1, 8, .inl (nA Gr)))] H := by rw [e9]; exact hP.sub [7, 0, 1, 2, 3, 4, 5, 6] rfl
  have hD9 : va_D A [(m0, .inr (9, [.int (nI sh), .ref rO, .ref rU, .ref rT, .int (nI rg), .ref rS, .ref rB, .ref rP, .ref rG, .long (lN (tA (U (seN sh Si k) * (1 * Te (seN sh Si k))) (V (seN sh Si k) * (1)))), .long (lN (tB (U (seN sh Si k) * (1 * Te (seN sh Si k))) (V (seN sh Si k) * (1)))), .int mk, .ref rM, .int md, .ref rN, .ref rL, .ref rZ, .ref rE, .ref rI, .int hc, .ref rA, .ref rX, .int lnn, .ref rV, .ref rW, .int sl, .ref rC, .ref rF, .ref rQ, .ref rK, .ref rR, .ref rD])), (rO, .inl (E.2 2, 4, .inr (.inl (lA U)))), (rU, .inl (E.2 2, 4, .inr (.inl (lA V)))), (rT, .inl (E.2 1, 4, .inl (nA Te))), (rS, .inl (E.2 1, 8, .inl (nA Si))), (rB, .inl (E.2 1, 8, .inl (nA Ba))), (rP, .inl (E.2 1, 8, .inl (nA Sm))), (rG, .inl (E.2 1, 8, .inl (nA Gr)))] := by rw [e9]; exact hD.sub [7, 0, 1, 2, 3, 4, 5, 6] (by decide) rfl
  exact W.vret hx hb hr (fun t9 ht9 hW9 => ⟨⟨(), rfl, trivial, ⟨by rw [ht9]; exact hP9, hD9⟩⟩, hS.F ht9⟩) hS.2.2 dX9_findTone_227
set_option maxHeartbeats 1000000 in
set_option maxRecDepth 100000 in
theorem c_X9_findTone_1_1 (l : Launch) (E : EnvT) (sz : Nat) (m0 : Nat) (sh : Nat) (rO : Nat) (rU : Nat) (rT : Nat) (rg : Nat) (rS : Nat) (rB : Nat) (rP : Nat) (rG : Nat) (ab0 : Int64) (be0 : Int64) (mk : Int32) (rM : Nat) (md : Int32) (rN : Nat) (rL : Nat) (rZ : Nat) (rE : Nat) (rI : Nat) (hc : Int32) (rA : Nat) (rX : Nat) (lnn : Int32) (rV : Nat) (rW : Nat) (sl : Int32) (rC : Nat) (rF : Nat) (rQ : Nat) (rK : Nat) (rR : Nat) (rD : Nat) (U : Nat → Nat) (V : Nat → Nat) (Te : Nat → Nat) (Si : Nat → Nat) (Ba : Nat → Nat) (Sm : Nat → Nat) (Gr : Nat → Nat) (k : Nat) (hs1 : 1 ≤ sh) (hs4 : sh ≤ 4) (hr8 : rg ≤ 8) (hk : k < 2 * sh - 1 + 4 * rg) (hse : seN sh Si k < 4) (hU1 : 0 < U (seN sh Si k)) (hU2 : U (seN sh Si k) ≤ 8000000) (hV1 : 0 < V (seN sh Si k)) (hV2 : V (seN sh Si k) ≤ 8000000) (hkd : kdN sh k = 1) (ht1 : 5 ≤ Te (seN sh Si k)) (ht2 : Te (seN sh Si k) ≤ 200) : Met l yX9_findTone wsX9_findTone ({ frames := 2, cells := 0, slots := 0, locals := 42 }) (va_Pc [.ref m0, .int (nI k), .int 1] (PW E [(m0, .inr (9, [.int (nI sh), .ref rO, .ref rU, .ref rT, .int (nI rg), .ref rS, .ref rB, .ref rP, .ref rG, .long ab0, .long be0, .int mk, .ref rM, .int md, .ref rN, .ref rL, .ref rZ, .ref rE, .ref rI, .int hc, .ref rA, .ref rX, .int lnn, .ref rV, .ref rW, .int sl, .ref rC, .ref rF, .ref rQ, .ref rK, .ref rR, .ref rD])), (rO, .inl (E.2 2, 4, .inr (.inl (lA U)))), (rU, .inl (E.2 2, 4, .inr (.inl (lA V)))), (rT, .inl (E.2 1, 4, .inl (nA Te))), (rS, .inl (E.2 1, 8, .inl (nA Si))), (rB, .inl (E.2 1, 8, .inl (nA Ba))), (rP, .inl (E.2 1, 8, .inl (nA Sm))), (rG, .inl (E.2 1, 8, .inl (nA Gr)))] sz)) (va_Qv (fun (uu : Unit) => True) (fun (uu : Unit) t => BW E (va_A [(m0, .inr (9, [.int (nI sh), .ref rO, .ref rU, .ref rT, .int (nI rg), .ref rS, .ref rB, .ref rP, .ref rG, .long ab0, .long be0, .int mk, .ref rM, .int md, .ref rN, .ref rL, .ref rZ, .ref rE, .ref rI, .int hc, .ref rA, .ref rX, .int lnn, .ref rV, .ref rW, .int sl, .ref rC, .ref rF, .ref rQ, .ref rK, .ref rR, .ref rD])), (rO, .inl (E.2 2, 4, .inr (.inl (lA U)))), (rU, .inl (E.2 2, 4, .inr (.inl (lA V)))), (rT, .inl (E.2 1, 4, .inl (nA Te))), (rS, .inl (E.2 1, 8, .inl (nA Si))), (rB, .inl (E.2 1, 8, .inl (nA Ba))), (rP, .inl (E.2 1, 8, .inl (nA Sm))), (rG, .inl (E.2 1, 8, .inl (nA Gr)))] sz) [(m0, .inr (9, [.int (nI sh), .ref rO, .ref rU, .ref rT, .int (nI rg), .ref rS, .ref rB, .ref rP, .ref rG, .long (lN (tA (U (seN sh Si k) * (2 * Te (seN sh Si k))) (V (seN sh Si k) * (1)))), .long (lN (tB (U (seN sh Si k) * (2 * Te (seN sh Si k))) (V (seN sh Si k) * (1)))), .int mk, .ref rM, .int md, .ref rN, .ref rL, .ref rZ, .ref rE, .ref rI, .int hc, .ref rA, .ref rX, .int lnn, .ref rV, .ref rW, .int sl, .ref rC, .ref rF, .ref rQ, .ref rK, .ref rR, .ref rD])), (rO, .inl (E.2 2, 4, .inr (.inl (lA U)))), (rU, .inl (E.2 2, 4, .inr (.inl (lA V)))), (rT, .inl (E.2 1, 4, .inl (nA Te))), (rS, .inl (E.2 1, 8, .inl (nA Si))), (rB, .inl (E.2 1, 8, .inl (nA Ba))), (rP, .inl (E.2 1, 8, .inl (nA Sm))), (rG, .inl (E.2 1, 8, .inl (nA Gr)))] t) (va_A [(m0, .inr (9, [.int (nI sh), .ref rO, .ref rU, .ref rT, .int (nI rg), .ref rS, .ref rB, .ref rP, .ref rG, .long ab0, .long be0, .int mk, .ref rM, .int md, .ref rN, .ref rL, .ref rZ, .ref rE, .ref rI, .int hc, .ref rA, .ref rX, .int lnn, .ref rV, .ref rW, .int sl, .ref rC, .ref rF, .ref rQ, .ref rK, .ref rR, .ref rD])), (rO, .inl (E.2 2, 4, .inr (.inl (lA U)))), (rU, .inl (E.2 2, 4, .inr (.inl (lA V)))), (rT, .inl (E.2 1, 4, .inl (nA Te))), (rS, .inl (E.2 1, 8, .inl (nA Si))), (rB, .inl (E.2 1, 8, .inl (nA Ba))), (rP, .inl (E.2 1, 8, .inl (nA Sm))), (rG, .inl (E.2 1, 8, .inl (nA Gr)))] sz)) 0 0 (va_A [(m0, .inr (9, [.int (nI sh), .ref rO, .ref rU, .ref rT, .int (nI rg), .ref rS, .ref rB, .ref rP, .ref rG, .long ab0, .long be0, .int mk, .ref rM, .int md, .ref rN, .ref rL, .ref rZ, .ref rE, .ref rI, .int hc, .ref rA, .ref rX, .int lnn, .ref rV, .ref rW, .int sl, .ref rC, .ref rF, .ref rQ, .ref rK, .ref rR, .ref rD])), (rO, .inl (E.2 2, 4, .inr (.inl (lA U)))), (rU, .inl (E.2 2, 4, .inr (.inl (lA V)))), (rT, .inl (E.2 1, 4, .inl (nA Te))), (rS, .inl (E.2 1, 8, .inl (nA Si))), (rB, .inl (E.2 1, 8, .inl (nA Ba))), (rP, .inl (E.2 1, 8, .inl (nA Sm))), (rG, .inl (E.2 1, 8, .inl (nA Gr)))] sz) := by
  refine Met.ofW (cc := cX9_findTone) (maxL := 14) (ret := none) (by decide +kernel) rfl ?_
  intro p e s m args below meth c s₁ B hml hv
  obtain ⟨rfl, hsz, hP, hE, hD0⟩ := hv
  have hx := B.exec
  have hb := B.bytes
  have hr := B.returns
  have hts := atoms_spec (ws := wsX9_findTone) B.pre
  have hown : s.vm.findClass RX9 = some m.cls := findClass_of_methodNamed B.named
  have hlocks := B.notSynchronized
  have hK := hE.1
  have hNN := hE.2.1
  have hinX9 : ∀ w ∈ wsX90, w ∈ wsX9_findTone := fun w h => List.mem_cons_of_mem _ (List.mem_append_right _ h)
  subst hsz
  have hD := hD0.self (sz := s.heap.size)
  generalize hAe : va_A [(m0, .inr (9, [.int (nI sh), .ref rO, .ref rU, .ref rT, .int (nI rg), .ref rS, .ref rB, .ref rP, .ref rG, .long ab0, .long be0, .int mk, .ref rM, .int md, .ref rN, .ref rL, .ref rZ, .ref rE, .ref rI, .int hc, .ref rA, .ref rX, .int lnn, .ref rV, .ref rW, .int sl, .ref rC, .ref rF, .ref rQ, .ref rK, .ref rR, .ref rD])), (rO, .inl (E.2 2, 4, .inr (.inl (lA U)))), (rU, .inl (E.2 2, 4, .inr (.inl (lA V)))), (rT, .inl (E.2 1, 4, .inl (nA Te))), (rS, .inl (E.2 1, 8, .inl (nA Si))), (rB, .inl (E.2 1, 8, .inl (nA Ba))), (rP, .inl (E.2 1, 8, .inl (nA Sm))), (rG, .inl (E.2 1, 8, .inl (nA Gr)))] s.heap.size = A at hD ⊢
  have hA : ∀ q : Nat, s.heap.size ≤ q → A q := fun q h => by rw [← hAe]; exact Or.inr h
  have hS : va_S A s.heap s.heap [] := va_S.rf
  have hl := lv_entry ([.ref m0, .int (nI k), .int 1]) (n := 14) (Nat.le_of_ble_eq_true rfl)
  rw [lg_entry_eq]
  generalize (lg_sl ([.ref m0, .int (nI k), .int 1]) ++ List.replicate (14 - (lg_sl ([.ref m0, .int (nI k), .int 1])).length) Slot.unset).toArray = ls at hl ⊢
  have hl : lv_has ls 14 [(0, .ref m0), (1, .int (nI k)), (2, .int 1)] := hl
  refine lv_aload_n hx hb dX9_findTone_0 rfl (lv_at hl 0 rfl) ?_
  refine lv_iload_n hx hb dX9_findTone_1 rfl (lv_at hl 1 rfl) ?_
  refine rVi hE ⟨hx, hb, hml, hown, hts⟩ (c_X9_kindOf l E m0 sh rO rU rT rg rS rB rP rG ab0 be0 mk rM md rN rL rZ rE rI hc rA rX lnn rV rW sl rC rF rQ rK rR rD k (hs1) (hs4) (hr8) (hk)) (cwV 1 hts gX9_findTone_X9_kindOf rfl rfl rfl (by decide +kernel) ⟨Nat.le_of_ble_eq_true rfl, Nat.le_of_ble_eq_true rfl⟩) (hP.sub [0] rfl) 0 9 rfl rfl rfl hl.1 rfl (Nat.le_of_ble_eq_true rfl) dX9_findTone_2 ⟨(Nat.zero_le _), (Nat.zero_le _)⟩ ?_
  rw [show (nI (kdN sh k) : Int32) = 1 from by rw [hkd]; rfl]
  refine lv_istore_n (lv' := [(3, .int 1), (0, .ref m0), (1, .int (nI k)), (2, .int 1)]) hx hb dX9_findTone_5 rfl hl (by decide) rfl (fun ls hl => ?_)
  refine lv_aload_n hx hb dX9_findTone_6 rfl (lv_at hl 1 rfl) ?_
  refine lv_iload_n hx hb dX9_findTone_7 rfl (lv_at hl 2 rfl) ?_
  refine rVi hE ⟨hx, hb, hml, hown, hts⟩ (c_X9_shaftOf l E m0 sh rO rU rT rg rS rB rP rG ab0 be0 mk rM md rN rL rZ rE rI hc rA rX lnn rV rW sl rC rF rQ rK rR rD Si k (hs1) (hs4) (hr8) (hk)) (cwV 1 hts gX9_findTone_X9_shaftOf rfl rfl rfl (by decide +kernel) ⟨Nat.le_of_ble_eq_true rfl, Nat.le_of_ble_eq_true rfl⟩) (hP.sub [0, 4] rfl) 0 9 rfl rfl rfl hl.1 rfl (Nat.le_of_ble_eq_true rfl) dX9_findTone_8 ⟨(Nat.zero_le _), (Nat.zero_le _)⟩ ?_
  refine lv_istore (lv' := [(4, .int (nI (seN sh Si k))), (3, .int 1), (0, .ref m0), (1, .int (nI k)), (2, .int 1)]) hx hb dX9_findTone_11 hl (by decide) rfl (fun ls hl => ?_)
  refine lv_iload_n hx hb dX9_findTone_13 rfl (lv_at hl 4 rfl) ?_
  refine lv_i2l (v := 1) hx hb dX9_findTone_14 (by decide) ?_
  refine lv_lconst (v := 1) hx hb dX9_findTone_15 (by decide) ?_
  refine lv_ladd hx hb dX9_findTone_16 ?_
  rw [show ((1 : Int64) + (1 : Int64) : Int64) = lN (2) from lN_add 1 1]
  refine lv_lstore (lv' := [(5, .long (lN (2))), (4, .int (nI (seN sh Si k))), (3, .int 1), (0, .ref m0), (1, .int (nI k)), (2, .int 1)]) hx hb dX9_findTone_17 hl (by decide) rfl (fun ls hl => ?_)
  refine lv_lconst (v := 1) hx hb dX9_findTone_19 (by decide) ?_
  refine lv_lstore (lv' := [(7, .long 1), (5, .long (lN (2))), (4, .int (nI (seN sh Si k))), (3, .int 1), (0, .ref m0), (1, .int (nI k)), (2, .int 1)]) hx hb dX9_findTone_20 hl (by decide) rfl (fun ls hl => ?_)
  refine lv_iload_n hx hb dX9_findTone_22 rfl (lv_at hl 3 rfl) ?_
  refine lv_iconst (v := 1) hx hb dX9_findTone_23 (by decide) ?_
  refine lv_icmp_ne (tgt := 45) hx hb dX9_findTone_24 (by decide) (fun c_24 => by exfalso; revert c_24; decide) (fun c_24 => ?_)
  refine lv_iload_n hx hb dX9_findTone_27 rfl (lv_at hl 6 rfl) ?_
  refine lv_i2l (v := 1) hx hb dX9_findTone_28 (by decide) ?_
  refine lv_lconst (v := 1) hx hb dX9_findTone_29 (by decide) ?_
  refine lv_ladd hx hb dX9_findTone_30 ?_
  rw [show ((1 : Int64) + (1 : Int64) : Int64) = lN (2) from lN_add 1 1]
  refine lv_aload_n hx hb dX9_findTone_31 rfl (lv_at hl 4 rfl) ?_
  refine va_get (D := E.1) (ci := 9) (v := .ref rT) (C := RX9) (T := TX9) (N := 32) hx hb hts hinX9 hown hK hP 0 rfl rfl 3 (by decide) (hts (.fieldLink RX9 20 "WornRingsModel" "teeth" "[I") (by decide +kernel)) (fun _ h9 => h9) rfl dX9_findTone_32 ?_
  refine lv_iload hx hb dX9_findTone_35 (lv_at hl 2 rfl) ?_
  refine va_iald hx hb hK hP 3 1 rfl rfl (vp_in_nI (by omega) (by omega)) dX9_findTone_37 ?_
  rw [nI_clamp (n := seN sh Si k) (by omega)]
  refine W.eq (g2 := F0 m 38 ls [.int (nI (Te (seN sh Si k))), .long (lN (2))]) rfl ?_
  refine lv_i2l (v := lN (Te (seN sh Si k))) hx hb dX9_findTone_38 (nI_l (by omega)) ?_
  refine lv_lmul hx hb dX9_findTone_39 ?_
  rw [show (lN (2) * (lN (Te (seN sh Si k))) : Int64) = lN (2 * (Te (seN sh Si k))) from lN_mul 2 (Te (seN sh Si k))]
  refine lv_lstore (lv' := [(5, .long (lN (2 * (Te (seN sh Si k))))), (7, .long 1), (4, .int (nI (seN sh Si k))), (3, .int 1), (0, .ref m0), (1, .int (nI k)), (2, .int 1)]) hx hb dX9_findTone_40 hl (by decide) rfl (fun ls hl => ?_)
  refine lv_goto (tgt := 203) hx hb dX9_findTone_42 (by decide) ?_
  refine lv_aload_n hx hb dX9_findTone_203 rfl (lv_at hl 4 rfl) ?_
  refine lv_aload_n hx hb dX9_findTone_204 rfl (lv_at hl 4 rfl) ?_
  refine va_get (D := E.1) (ci := 9) (v := .ref rO) (C := RX9) (T := TX9) (N := 32) hx hb hts hinX9 hown hK hP 0 rfl rfl 1 (by decide) (hts (.fieldLink RX9 13 "WornRingsModel" "over" "[J") (by decide +kernel)) (fun _ h9 => h9) rfl dX9_findTone_205 ?_
  refine lv_iload hx hb dX9_findTone_208 (lv_at hl 2 rfl) ?_
  refine va_lald hx hb hK hP 1 2 rfl rfl (vp_in_nI (by omega) (by omega)) dX9_findTone_210 ?_
  rw [nI_clamp (n := seN sh Si k) (by omega)]
  refine W.eq (g2 := F0 m 211 ls [.long (lN (U (seN sh Si k))), .ref m0]) rfl ?_
  refine lv_lload hx hb dX9_findTone_211 (lv_at hl 0 rfl) ?_
  refine lv_lmul hx hb dX9_findTone_213 ?_
  rw [show ((lN (U (seN sh Si k))) * (lN (2 * (Te (seN sh Si k)))) : Int64) = lN ((U (seN sh Si k)) * (2 * (Te (seN sh Si k)))) from lN_mul (U (seN sh Si k)) (2 * (Te (seN sh Si k)))]
  refine lv_aload_n hx hb dX9_findTone_214 rfl (lv_at hl 4 rfl) ?_
  refine va_get (D := E.1) (ci := 9) (v := .ref rU) (C := RX9) (T := TX9) (N := 32) hx hb hts hinX9 hown hK hP 0 rfl rfl 2 (by decide) (hts (.fieldLink RX9 17 "WornRingsModel" "under" "[J") (by decide +kernel)) (fun _ h9 => h9) rfl dX9_findTone_215 ?_
  refine lv_iload hx hb dX9_findTone_218 (lv_at hl 2 rfl) ?_
  refine va_lald hx hb hK hP 2 2 rfl rfl (vp_in_nI (by omega) (by omega)) dX9_findTone_220 ?_
  rw [nI_clamp (n := seN sh Si k) (by omega)]
  refine W.eq (g2 := F0 m 221 ls [.long (lN (V (seN sh Si k))), .long (lN ((U (seN sh Si k)) * (2 * (Te (seN sh Si k))))), .ref m0]) rfl ?_
  refine lv_lload hx hb dX9_findTone_221 (lv_at hl 1 rfl) ?_
  refine lv_lmul hx hb dX9_findTone_223 ?_
  rw [show ((lN (V (seN sh Si k))) * (1 : Int64) : Int64) = lN ((V (seN sh Si k)) * 1) from lN_mul (V (seN sh Si k)) 1]
  refine wVv (wr := [(rO, .inl (E.2 2, 4, .inr (.inl (lA U)))), (rU, .inl (E.2 2, 4, .inr (.inl (lA V)))), (rT, .inl (E.2 1, 4, .inl (nA Te))), (rS, .inl (E.2 1, 8, .inl (nA Si))), (rB, .inl (E.2 1, 8, .inl (nA Ba))), (rP, .inl (E.2 1, 8, .inl (nA Sm))), (rG, .inl (E.2 1, 8, .inl (nA Gr)))]) hE ⟨hx, hb, hml, hown, hts⟩ (c_X9_reduce l E s.heap.size m0 (nI sh) rO rU rT (nI rg) rS rB rP rG ab0 be0 mk rM md rN rL rZ rE rI hc rA rX lnn rV rW sl rC rF rQ rK rR rD ((U (seN sh Si k)) * (2 * (Te (seN sh Si k)))) ((V (seN sh Si k)) * 1) (Nat.mul_pos hU1 (by omega)) (Nat.lt_of_le_of_lt (Nat.mul_le_mul hU2 (show _ ≤ 20000 by omega)) (by decide)) (Nat.mul_pos hV1 (by omega)) (Nat.lt_of_le_of_lt (Nat.mul_le_mul hV2 (show _ ≤ 20000 by omega)) (by decide))) (cwV 2 hts gX9_findTone_X9_reduce rfl rfl rfl (by decide +kernel) ⟨Nat.le_of_ble_eq_true rfl, Nat.le_of_ble_eq_true rfl⟩) hP hD hS hA [0] [1, 2, 3, 4, 5, 6, 7] rfl rfl (by decide) (by decide) (by decide) 0 9 rfl rfl rfl hl.1 rfl (Nat.le_of_ble_eq_true rfl) dX9_findTone_224 ⟨(Nat.zero_le _), (Nat.zero_le _)⟩ (fun u H locs hw hP hD hS => ?_)
  have hP : va_P E.1 vwCl [(rO, .inl (E.2 2, 4, .inr (.inl (lA U)))), (rU, .inl (E.2 2, 4, .inr (.inl (lA V)))), (rT, .inl (E.2 1, 4, .inl (nA Te))), (rS, .inl (E.2 1, 8, .inl (nA Si))), (rB, .inl (E.2 1, 8, .inl (nA Ba))), (rP, .inl (E.2 1, 8, .inl (nA Sm))), (rG, .inl (E.2 1, 8, .inl (nA Gr))), (m0, .inr (9, [.int (nI sh), .ref rO, .ref rU, .ref rT, .int (nI rg), .ref rS, .ref rB, .ref rP, .ref rG, .long (lN (tA ((U (seN sh Si k)) * (2 * (Te (seN sh Si k)))) ((V (seN sh Si k)) * 1))), .long (lN (tB ((U (seN sh Si k)) * (2 * (Te (seN sh Si k)))) ((V (seN sh Si k)) * 1))), .int mk, .ref rM, .int md, .ref rN, .ref rL, .ref rZ, .ref rE, .ref rI, .int hc, .ref rA, .ref rX, .int lnn, .ref rV, .ref rW, .int sl, .ref rC, .ref rF, .ref rQ, .ref rK, .ref rR, .ref rD]))] H := hP
  have hD : va_D A [(rO, .inl (E.2 2, 4, .inr (.inl (lA U)))), (rU, .inl (E.2 2, 4, .inr (.inl (lA V)))), (rT, .inl (E.2 1, 4, .inl (nA Te))), (rS, .inl (E.2 1, 8, .inl (nA Si))), (rB, .inl (E.2 1, 8, .inl (nA Ba))), (rP, .inl (E.2 1, 8, .inl (nA Sm))), (rG, .inl (E.2 1, 8, .inl (nA Gr))), (m0, .inr (9, [.int (nI sh), .ref rO, .ref rU, .ref rT, .int (nI rg), .ref rS, .ref rB, .ref rP, .ref rG, .long (lN (tA ((U (seN sh Si k)) * (2 * (Te (seN sh Si k)))) ((V (seN sh Si k)) * 1))), .long (lN (tB ((U (seN sh Si k)) * (2 * (Te (seN sh Si k)))) ((V (seN sh Si k)) * 1))), .int mk, .ref rM, .int md, .ref rN, .ref rL, .ref rZ, .ref rE, .ref rI, .int hc, .ref rA, .ref rX, .int lnn, .ref rV, .ref rW, .int sl, .ref rC, .ref rF, .ref rQ, .ref rK, .ref rR, .ref rD]))] := hD
  have e9 : ([(m0, .inr (9, [.int (nI sh), .ref rO, .ref rU, .ref rT, .int (nI rg), .ref rS, .ref rB, .ref rP, .ref rG, .long (lN (tA (U (seN sh Si k) * (2 * Te (seN sh Si k))) (V (seN sh Si k) * (1)))), .long (lN (tB (U (seN sh Si k) * (2 * Te (seN sh Si k))) (V (seN sh Si k) * (1)))), .int mk, .ref rM, .int md, .ref rN, .ref rL, .ref rZ, .ref rE, .ref rI, .int hc, .ref rA, .ref rX, .int lnn, .ref rV, .ref rW, .int sl, .ref rC, .ref rF, .ref rQ, .ref rK, .ref rR, .ref rD])), (rO, .inl (E.2 2, 4, .inr (.inl (lA U)))), (rU, .inl (E.2 2, 4, .inr (.inl (lA V)))), (rT, .inl (E.2 1, 4, .inl (nA Te))), (rS, .inl (E.2 1, 8, .inl (nA Si))), (rB, .inl (E.2 1, 8, .inl (nA Ba))), (rP, .inl (E.2 1, 8, .inl (nA Sm))), (rG, .inl (E.2 1, 8, .inl (nA Gr)))] : va_W) = [(m0, .inr (9, [.int (nI sh), .ref rO, .ref rU, .ref rT, .int (nI rg), .ref rS, .ref rB, .ref rP, .ref rG, .long (lN (tA ((U (seN sh Si k)) * (2 * (Te (seN sh Si k)))) ((V (seN sh Si k)) * 1))), .long (lN (tB ((U (seN sh Si k)) * (2 * (Te (seN sh Si k)))) ((V (seN sh Si k)) * 1))), .int mk, .ref rM, .int md, .ref rN, .ref rL, .ref rZ, .ref rE, .ref rI, .int hc, .ref rA, .ref rX, .int lnn, .ref rV, .ref rW, .int sl, .ref rC, .ref rF, .ref rQ, .ref rK, .ref rR, .ref rD])), (rO, .inl (E.2 2, 4, .inr (.inl (lA U)))), (rU, .inl (E.2 2, 4, .inr (.inl (lA V)))), (rT, .inl (E.2 1, 4, .inl (nA Te))), (rS, .inl (E.2 1, 8, .inl (nA Si))), (rB, .inl (E.2 1, 8, .inl (nA Ba))), (rP, .inl (E.2 1, 8, .inl (nA Sm))), (rG, .inl (E.2 1, 8, .inl (nA Gr)))] := by rfl
  have hP9 : va_P E.1 vwCl [(m0, .inr (9, [.int (nI sh), .ref rO, .ref rU, .ref rT, .int (nI rg), .ref rS, .ref rB, .ref rP, .ref rG, .long (lN (tA (U (seN sh Si k) * (2 * Te (seN sh Si k))) (V (seN sh Si k) * (1)))), .long (lN (tB (U (seN sh Si k) * (2 * Te (seN sh Si k))) (V (seN sh Si k) * (1)))), .int mk, .ref rM, .int md, .ref rN, .ref rL, .ref rZ, .ref rE, .ref rI, .int hc, .ref rA, .ref rX, .int lnn, .ref rV, .ref rW, .int sl, .ref rC, .ref rF, .ref rQ, .ref rK, .ref rR, .ref rD])), (rO, .inl (E.2 2, 4, .inr (.inl (lA U)))), (rU, .inl (E.2 2, 4, .inr (.inl (lA V)))), (rT, .inl (E.2 1, 4, .inl (nA Te))), (rS, .inl (E.2 1, 8, .inl (nA Si))), (rB, .inl (E.2 1, 8, .inl (nA Ba))), (rP, .inl (E.2 1, 8, .inl (nA Sm))), (rG, .inl (E.2 1, 8, .inl (nA Gr)))] H := by rw [e9]; exact hP.sub [7, 0, 1, 2, 3, 4, 5, 6] rfl
  have hD9 : va_D A [(m0, .inr (9, [.int (nI sh), .ref rO, .ref rU, .ref rT, .int (nI rg), .ref rS, .ref rB, .ref rP, .ref rG, .long (lN (tA (U (seN sh Si k) * (2 * Te (seN sh Si k))) (V (seN sh Si k) * (1)))), .long (lN (tB (U (seN sh Si k) * (2 * Te (seN sh Si k))) (V (seN sh Si k) * (1)))), .int mk, .ref rM, .int md, .ref rN, .ref rL, .ref rZ, .ref rE, .ref rI, .int hc, .ref rA, .ref rX, .int lnn, .ref rV, .ref rW, .int sl, .ref rC, .ref rF, .ref rQ, .ref rK, .ref rR, .ref rD])), (rO, .inl (E.2 2, 4, .inr (.inl (lA U)))), (rU, .inl (E.2 2, 4, .inr (.inl (lA V)))), (rT, .inl (E.2 1, 4, .inl (nA Te))), (rS, .inl (E.2 1, 8, .inl (nA Si))), (rB, .inl (E.2 1, 8, .inl (nA Ba))), (rP, .inl (E.2 1, 8, .inl (nA Sm))), (rG, .inl (E.2 1, 8, .inl (nA Gr)))] := by rw [e9]; exact hD.sub [7, 0, 1, 2, 3, 4, 5, 6] (by decide) rfl
  exact W.vret hx hb hr (fun t9 ht9 hW9 => ⟨⟨(), rfl, trivial, ⟨by rw [ht9]; exact hP9, hD9⟩⟩, hS.F ht9⟩) hS.2.2 dX9_findTone_227
set_option maxHeartbeats 1000000 in
set_option maxRecDepth 100000 in
theorem c_X9_findTone_2_0 (l : Launch) (E : EnvT) (sz : Nat) (m0 : Nat) (sh : Nat) (rO : Nat) (rU : Nat) (rT : Nat) (rg : Nat) (rS : Nat) (rB : Nat) (rP : Nat) (rG : Nat) (ab0 : Int64) (be0 : Int64) (mk : Int32) (rM : Nat) (md : Int32) (rN : Nat) (rL : Nat) (rZ : Nat) (rE : Nat) (rI : Nat) (hc : Int32) (rA : Nat) (rX : Nat) (lnn : Int32) (rV : Nat) (rW : Nat) (sl : Int32) (rC : Nat) (rF : Nat) (rQ : Nat) (rK : Nat) (rR : Nat) (rD : Nat) (U : Nat → Nat) (V : Nat → Nat) (Te : Nat → Nat) (Si : Nat → Nat) (Ba : Nat → Nat) (Sm : Nat → Nat) (Gr : Nat → Nat) (k : Nat) (hs1 : 1 ≤ sh) (hs4 : sh ≤ 4) (hr8 : rg ≤ 8) (hk : k < 2 * sh - 1 + 4 * rg) (hse : seN sh Si k < 4) (hU1 : 0 < U (seN sh Si k)) (hU2 : U (seN sh Si k) ≤ 8000000) (hV1 : 0 < V (seN sh Si k)) (hV2 : V (seN sh Si k) ≤ 8000000) (hkd : kdN sh k = 2) (hk2 : 2 * sh - 1 ≤ k) (hrr : rgN sh k < 8) (hb1 : 3 ≤ Ba (rgN sh k)) (hb2 : Ba (rgN sh k) ≤ 30) (hp1 : 1 ≤ Sm (rgN sh k)) (hpq : Sm (rgN sh k) < Gr (rgN sh k)) (hq2 : Gr (rgN sh k) ≤ 100) : Met l yX9_findTone wsX9_findTone ({ frames := 2, cells := 0, slots := 0, locals := 42 }) (va_Pc [.ref m0, .int (nI k), .int 0] (PW E [(m0, .inr (9, [.int (nI sh), .ref rO, .ref rU, .ref rT, .int (nI rg), .ref rS, .ref rB, .ref rP, .ref rG, .long ab0, .long be0, .int mk, .ref rM, .int md, .ref rN, .ref rL, .ref rZ, .ref rE, .ref rI, .int hc, .ref rA, .ref rX, .int lnn, .ref rV, .ref rW, .int sl, .ref rC, .ref rF, .ref rQ, .ref rK, .ref rR, .ref rD])), (rO, .inl (E.2 2, 4, .inr (.inl (lA U)))), (rU, .inl (E.2 2, 4, .inr (.inl (lA V)))), (rT, .inl (E.2 1, 4, .inl (nA Te))), (rS, .inl (E.2 1, 8, .inl (nA Si))), (rB, .inl (E.2 1, 8, .inl (nA Ba))), (rP, .inl (E.2 1, 8, .inl (nA Sm))), (rG, .inl (E.2 1, 8, .inl (nA Gr)))] sz)) (va_Qv (fun (uu : Unit) => True) (fun (uu : Unit) t => BW E (va_A [(m0, .inr (9, [.int (nI sh), .ref rO, .ref rU, .ref rT, .int (nI rg), .ref rS, .ref rB, .ref rP, .ref rG, .long ab0, .long be0, .int mk, .ref rM, .int md, .ref rN, .ref rL, .ref rZ, .ref rE, .ref rI, .int hc, .ref rA, .ref rX, .int lnn, .ref rV, .ref rW, .int sl, .ref rC, .ref rF, .ref rQ, .ref rK, .ref rR, .ref rD])), (rO, .inl (E.2 2, 4, .inr (.inl (lA U)))), (rU, .inl (E.2 2, 4, .inr (.inl (lA V)))), (rT, .inl (E.2 1, 4, .inl (nA Te))), (rS, .inl (E.2 1, 8, .inl (nA Si))), (rB, .inl (E.2 1, 8, .inl (nA Ba))), (rP, .inl (E.2 1, 8, .inl (nA Sm))), (rG, .inl (E.2 1, 8, .inl (nA Gr)))] sz) [(m0, .inr (9, [.int (nI sh), .ref rO, .ref rU, .ref rT, .int (nI rg), .ref rS, .ref rB, .ref rP, .ref rG, .long (lN (tA (U (seN sh Si k) * (Ba (rgN sh k) * (Gr (rgN sh k) - Sm (rgN sh k)))) (V (seN sh Si k) * (2 * Gr (rgN sh k))))), .long (lN (tB (U (seN sh Si k) * (Ba (rgN sh k) * (Gr (rgN sh k) - Sm (rgN sh k)))) (V (seN sh Si k) * (2 * Gr (rgN sh k))))), .int mk, .ref rM, .int md, .ref rN, .ref rL, .ref rZ, .ref rE, .ref rI, .int hc, .ref rA, .ref rX, .int lnn, .ref rV, .ref rW, .int sl, .ref rC, .ref rF, .ref rQ, .ref rK, .ref rR, .ref rD])), (rO, .inl (E.2 2, 4, .inr (.inl (lA U)))), (rU, .inl (E.2 2, 4, .inr (.inl (lA V)))), (rT, .inl (E.2 1, 4, .inl (nA Te))), (rS, .inl (E.2 1, 8, .inl (nA Si))), (rB, .inl (E.2 1, 8, .inl (nA Ba))), (rP, .inl (E.2 1, 8, .inl (nA Sm))), (rG, .inl (E.2 1, 8, .inl (nA Gr)))] t) (va_A [(m0, .inr (9, [.int (nI sh), .ref rO, .ref rU, .ref rT, .int (nI rg), .ref rS, .ref rB, .ref rP, .ref rG, .long ab0, .long be0, .int mk, .ref rM, .int md, .ref rN, .ref rL, .ref rZ, .ref rE, .ref rI, .int hc, .ref rA, .ref rX, .int lnn, .ref rV, .ref rW, .int sl, .ref rC, .ref rF, .ref rQ, .ref rK, .ref rR, .ref rD])), (rO, .inl (E.2 2, 4, .inr (.inl (lA U)))), (rU, .inl (E.2 2, 4, .inr (.inl (lA V)))), (rT, .inl (E.2 1, 4, .inl (nA Te))), (rS, .inl (E.2 1, 8, .inl (nA Si))), (rB, .inl (E.2 1, 8, .inl (nA Ba))), (rP, .inl (E.2 1, 8, .inl (nA Sm))), (rG, .inl (E.2 1, 8, .inl (nA Gr)))] sz)) 0 0 (va_A [(m0, .inr (9, [.int (nI sh), .ref rO, .ref rU, .ref rT, .int (nI rg), .ref rS, .ref rB, .ref rP, .ref rG, .long ab0, .long be0, .int mk, .ref rM, .int md, .ref rN, .ref rL, .ref rZ, .ref rE, .ref rI, .int hc, .ref rA, .ref rX, .int lnn, .ref rV, .ref rW, .int sl, .ref rC, .ref rF, .ref rQ, .ref rK, .ref rR, .ref rD])), (rO, .inl (E.2 2, 4, .inr (.inl (lA U)))), (rU, .inl (E.2 2, 4, .inr (.inl (lA V)))), (rT, .inl (E.2 1, 4, .inl (nA Te))), (rS, .inl (E.2 1, 8, .inl (nA Si))), (rB, .inl (E.2 1, 8, .inl (nA Ba))), (rP, .inl (E.2 1, 8, .inl (nA Sm))), (rG, .inl (E.2 1, 8, .inl (nA Gr)))] sz) := by
  refine Met.ofW (cc := cX9_findTone) (maxL := 14) (ret := none) (by decide +kernel) rfl ?_
  intro p e s m args below meth c s₁ B hml hv
  obtain ⟨rfl, hsz, hP, hE, hD0⟩ := hv
  have hx := B.exec
  have hb := B.bytes
  have hr := B.returns
  have hts := atoms_spec (ws := wsX9_findTone) B.pre
  have hown : s.vm.findClass RX9 = some m.cls := findClass_of_methodNamed B.named
  have hlocks := B.notSynchronized
  have hK := hE.1
  have hNN := hE.2.1
  have hinX9 : ∀ w ∈ wsX90, w ∈ wsX9_findTone := fun w h => List.mem_cons_of_mem _ (List.mem_append_right _ h)
  subst hsz
  have hD := hD0.self (sz := s.heap.size)
  generalize hAe : va_A [(m0, .inr (9, [.int (nI sh), .ref rO, .ref rU, .ref rT, .int (nI rg), .ref rS, .ref rB, .ref rP, .ref rG, .long ab0, .long be0, .int mk, .ref rM, .int md, .ref rN, .ref rL, .ref rZ, .ref rE, .ref rI, .int hc, .ref rA, .ref rX, .int lnn, .ref rV, .ref rW, .int sl, .ref rC, .ref rF, .ref rQ, .ref rK, .ref rR, .ref rD])), (rO, .inl (E.2 2, 4, .inr (.inl (lA U)))), (rU, .inl (E.2 2, 4, .inr (.inl (lA V)))), (rT, .inl (E.2 1, 4, .inl (nA Te))), (rS, .inl (E.2 1, 8, .inl (nA Si))), (rB, .inl (E.2 1, 8, .inl (nA Ba))), (rP, .inl (E.2 1, 8, .inl (nA Sm))), (rG, .inl (E.2 1, 8, .inl (nA Gr)))] s.heap.size = A at hD ⊢
  have hA : ∀ q : Nat, s.heap.size ≤ q → A q := fun q h => by rw [← hAe]; exact Or.inr h
  have hS : va_S A s.heap s.heap [] := va_S.rf
  have hl := lv_entry ([.ref m0, .int (nI k), .int 0]) (n := 14) (Nat.le_of_ble_eq_true rfl)
  rw [lg_entry_eq]
  generalize (lg_sl ([.ref m0, .int (nI k), .int 0]) ++ List.replicate (14 - (lg_sl ([.ref m0, .int (nI k), .int 0])).length) Slot.unset).toArray = ls at hl ⊢
  have hl : lv_has ls 14 [(0, .ref m0), (1, .int (nI k)), (2, .int 0)] := hl
  have g1 : 0 < Ba (rgN sh k) * (Gr (rgN sh k) - Sm (rgN sh k)) := Nat.mul_pos (by omega) (by omega)
  have g2 : Ba (rgN sh k) * (Gr (rgN sh k) - Sm (rgN sh k)) ≤ 30 * 100 := Nat.mul_le_mul hb2 (by omega)
  refine lv_aload_n hx hb dX9_findTone_0 rfl (lv_at hl 0 rfl) ?_
  refine lv_iload_n hx hb dX9_findTone_1 rfl (lv_at hl 1 rfl) ?_
  refine rVi hE ⟨hx, hb, hml, hown, hts⟩ (c_X9_kindOf l E m0 sh rO rU rT rg rS rB rP rG ab0 be0 mk rM md rN rL rZ rE rI hc rA rX lnn rV rW sl rC rF rQ rK rR rD k (hs1) (hs4) (hr8) (hk)) (cwV 1 hts gX9_findTone_X9_kindOf rfl rfl rfl (by decide +kernel) ⟨Nat.le_of_ble_eq_true rfl, Nat.le_of_ble_eq_true rfl⟩) (hP.sub [0] rfl) 0 9 rfl rfl rfl hl.1 rfl (Nat.le_of_ble_eq_true rfl) dX9_findTone_2 ⟨(Nat.zero_le _), (Nat.zero_le _)⟩ ?_
  rw [show (nI (kdN sh k) : Int32) = 2 from by rw [hkd]; rfl]
  refine lv_istore_n (lv' := [(3, .int 2), (0, .ref m0), (1, .int (nI k)), (2, .int 0)]) hx hb dX9_findTone_5 rfl hl (by decide) rfl (fun ls hl => ?_)
  refine lv_aload_n hx hb dX9_findTone_6 rfl (lv_at hl 1 rfl) ?_
  refine lv_iload_n hx hb dX9_findTone_7 rfl (lv_at hl 2 rfl) ?_
  refine rVi hE ⟨hx, hb, hml, hown, hts⟩ (c_X9_shaftOf l E m0 sh rO rU rT rg rS rB rP rG ab0 be0 mk rM md rN rL rZ rE rI hc rA rX lnn rV rW sl rC rF rQ rK rR rD Si k (hs1) (hs4) (hr8) (hk)) (cwV 1 hts gX9_findTone_X9_shaftOf rfl rfl rfl (by decide +kernel) ⟨Nat.le_of_ble_eq_true rfl, Nat.le_of_ble_eq_true rfl⟩) (hP.sub [0, 4] rfl) 0 9 rfl rfl rfl hl.1 rfl (Nat.le_of_ble_eq_true rfl) dX9_findTone_8 ⟨(Nat.zero_le _), (Nat.zero_le _)⟩ ?_
  refine lv_istore (lv' := [(4, .int (nI (seN sh Si k))), (3, .int 2), (0, .ref m0), (1, .int (nI k)), (2, .int 0)]) hx hb dX9_findTone_11 hl (by decide) rfl (fun ls hl => ?_)
  refine lv_iload_n hx hb dX9_findTone_13 rfl (lv_at hl 4 rfl) ?_
  refine lv_i2l (v := 0) hx hb dX9_findTone_14 (by decide) ?_
  refine lv_lconst (v := 1) hx hb dX9_findTone_15 (by decide) ?_
  refine lv_ladd hx hb dX9_findTone_16 ?_
  rw [show ((0 : Int64) + (1 : Int64) : Int64) = lN (1) from lN_add 0 1]
  refine lv_lstore (lv' := [(5, .long (lN (1))), (4, .int (nI (seN sh Si k))), (3, .int 2), (0, .ref m0), (1, .int (nI k)), (2, .int 0)]) hx hb dX9_findTone_17 hl (by decide) rfl (fun ls hl => ?_)
  refine lv_lconst (v := 1) hx hb dX9_findTone_19 (by decide) ?_
  refine lv_lstore (lv' := [(7, .long 1), (5, .long (lN (1))), (4, .int (nI (seN sh Si k))), (3, .int 2), (0, .ref m0), (1, .int (nI k)), (2, .int 0)]) hx hb dX9_findTone_20 hl (by decide) rfl (fun ls hl => ?_)
  refine lv_iload_n hx hb dX9_findTone_22 rfl (lv_at hl 3 rfl) ?_
  refine lv_iconst (v := 1) hx hb dX9_findTone_23 (by decide) ?_
  refine lv_icmp_ne (tgt := 45) hx hb dX9_findTone_24 (by decide) (fun c_24 => ?_) (fun c_24 => by exfalso; revert c_24; decide)
  refine lv_iload_n hx hb dX9_findTone_45 rfl (lv_at hl 3 rfl) ?_
  refine lv_iconst (v := 1) hx hb dX9_findTone_46 (by decide) ?_
  refine lv_icmp_le (tgt := 203) hx hb dX9_findTone_47 (by decide) (fun c_47 => by exfalso; revert c_47; decide) (fun c_47 => ?_)
  refine lv_aload_n hx hb dX9_findTone_50 rfl (lv_at hl 4 rfl) ?_
  refine lv_iload_n hx hb dX9_findTone_51 rfl (lv_at hl 5 rfl) ?_
  refine rVi hE ⟨hx, hb, hml, hown, hts⟩ (c_X9_ringOf l E m0 sh rO rU rT rg rS rB rP rG ab0 be0 mk rM md rN rL rZ rE rI hc rA rX lnn rV rW sl rC rF rQ rK rR rD k (hs1) (hs4) (hr8) (hk) (hk2)) (cwV 1 hts gX9_findTone_X9_ringOf rfl rfl rfl (by decide +kernel) ⟨Nat.le_of_ble_eq_true rfl, Nat.le_of_ble_eq_true rfl⟩) (hP.sub [0] rfl) 0 9 rfl rfl rfl hl.1 rfl (Nat.le_of_ble_eq_true rfl) dX9_findTone_52 ⟨(Nat.zero_le _), (Nat.zero_le _)⟩ ?_
  refine lv_istore (lv' := [(9, .int (nI (rgN sh k))), (7, .long 1), (5, .long (lN (1))), (4, .int (nI (seN sh Si k))), (3, .int 2), (0, .ref m0), (1, .int (nI k)), (2, .int 0)]) hx hb dX9_findTone_55 hl (by decide) rfl (fun ls hl => ?_)
  refine lv_aload_n hx hb dX9_findTone_57 rfl (lv_at hl 5 rfl) ?_
  refine va_get (D := E.1) (ci := 9) (v := .ref rP) (C := RX9) (T := TX9) (N := 32) hx hb hts hinX9 hown hK hP 0 rfl rfl 7 (by decide) (hts (.fieldLink RX9 30 "WornRingsModel" "small" "[I") (by decide +kernel)) (fun _ h9 => h9) rfl dX9_findTone_58 ?_
  refine lv_iload hx hb dX9_findTone_61 (lv_at hl 0 rfl) ?_
  refine va_iald hx hb hK hP 6 1 rfl rfl (vp_in_nI (by omega) (by omega)) dX9_findTone_63 ?_
  rw [nI_clamp (n := rgN sh k) (by omega)]
  refine W.eq (g2 := F0 m 64 ls [.int (nI (Sm (rgN sh k)))]) rfl ?_
  refine lv_i2l (v := lN (Sm (rgN sh k))) hx hb dX9_findTone_64 (nI_l (by omega)) ?_
  refine lv_lstore (lv' := [(10, .long (lN (Sm (rgN sh k)))), (9, .int (nI (rgN sh k))), (7, .long 1), (5, .long (lN (1))), (4, .int (nI (seN sh Si k))), (3, .int 2), (0, .ref m0), (1, .int (nI k)), (2, .int 0)]) hx hb dX9_findTone_65 hl (by decide) rfl (fun ls hl => ?_)
  refine lv_aload_n hx hb dX9_findTone_67 rfl (lv_at hl 6 rfl) ?_
  refine va_get (D := E.1) (ci := 9) (v := .ref rG) (C := RX9) (T := TX9) (N := 32) hx hb hts hinX9 hown hK hP 0 rfl rfl 8 (by decide) (hts (.fieldLink RX9 33 "WornRingsModel" "great" "[I") (by decide +kernel)) (fun _ h9 => h9) rfl dX9_findTone_68 ?_
  refine lv_iload hx hb dX9_findTone_71 (lv_at hl 1 rfl) ?_
  refine va_iald hx hb hK hP 7 1 rfl rfl (vp_in_nI (by omega) (by omega)) dX9_findTone_73 ?_
  rw [nI_clamp (n := rgN sh k) (by omega)]
  refine W.eq (g2 := F0 m 74 ls [.int (nI (Gr (rgN sh k)))]) rfl ?_
  refine lv_i2l (v := lN (Gr (rgN sh k))) hx hb dX9_findTone_74 (nI_l (by omega)) ?_
  refine lv_lstore (lv' := [(12, .long (lN (Gr (rgN sh k)))), (10, .long (lN (Sm (rgN sh k)))), (9, .int (nI (rgN sh k))), (7, .long 1), (5, .long (lN (1))), (4, .int (nI (seN sh Si k))), (3, .int 2), (0, .ref m0), (1, .int (nI k)), (2, .int 0)]) hx hb dX9_findTone_75 hl (by decide) rfl (fun ls hl => ?_)
  refine lv_iload_n hx hb dX9_findTone_77 rfl (lv_at hl 6 rfl) ?_
  refine lv_iconst (v := 5) hx hb dX9_findTone_78 (by decide) ?_
  refine lv_icmp_ne (tgt := 94) hx hb dX9_findTone_79 (by decide) (fun c_79 => ?_) (fun c_79 => by exfalso; revert c_79; decide)
  refine lv_ldc2 (v := 2) hx hb hown (hts (.constantLong RX9 140 (2)) (by decide +kernel)) dX9_findTone_94 ?_
  refine lv_lload hx hb dX9_findTone_97 (lv_at hl 0 rfl) ?_
  refine lv_lmul hx hb dX9_findTone_99 ?_
  rw [show ((2 : Int64) * (lN (Gr (rgN sh k))) : Int64) = lN (2 * (Gr (rgN sh k))) from lN_mul 2 (Gr (rgN sh k))]
  refine lv_lstore (lv' := [(7, .long (lN (2 * (Gr (rgN sh k))))), (12, .long (lN (Gr (rgN sh k)))), (10, .long (lN (Sm (rgN sh k)))), (9, .int (nI (rgN sh k))), (5, .long (lN (1))), (4, .int (nI (seN sh Si k))), (3, .int 2), (0, .ref m0), (1, .int (nI k)), (2, .int 0)]) hx hb dX9_findTone_100 hl (by decide) rfl (fun ls hl => ?_)
  refine lv_iload_n hx hb dX9_findTone_102 rfl (lv_at hl 6 rfl) ?_
  refine lv_iconst (v := 2) hx hb dX9_findTone_103 (by decide) ?_
  refine lv_icmp_ne (tgt := 124) hx hb dX9_findTone_104 (by decide) (fun c_104 => by exfalso; revert c_104; decide) (fun c_104 => ?_)
  refine lv_aload_n hx hb dX9_findTone_107 rfl (lv_at hl 7 rfl) ?_
  refine va_get (D := E.1) (ci := 9) (v := .ref rB) (C := RX9) (T := TX9) (N := 32) hx hb hts hinX9 hown hK hP 0 rfl rfl 6 (by decide) (hts (.fieldLink RX9 27 "WornRingsModel" "balls" "[I") (by decide +kernel)) (fun _ h9 => h9) rfl dX9_findTone_108 ?_
  refine lv_iload hx hb dX9_findTone_111 (lv_at hl 3 rfl) ?_
  refine va_iald hx hb hK hP 5 1 rfl rfl (vp_in_nI (by omega) (by omega)) dX9_findTone_113 ?_
  rw [nI_clamp (n := rgN sh k) (by omega)]
  refine W.eq (g2 := F0 m 114 ls [.int (nI (Ba (rgN sh k)))]) rfl ?_
  refine lv_i2l (v := lN (Ba (rgN sh k))) hx hb dX9_findTone_114 (nI_l (by omega)) ?_
  refine lv_lload hx hb dX9_findTone_115 (lv_at hl 1 rfl) ?_
  refine lv_lload hx hb dX9_findTone_117 (lv_at hl 2 rfl) ?_
  refine lv_lsub hx hb dX9_findTone_119 ?_
  rw [show ((lN (Gr (rgN sh k))) - (lN (Sm (rgN sh k))) : Int64) = lN ((Gr (rgN sh k)) - (Sm (rgN sh k))) from lN_sub (a := (Gr (rgN sh k))) (b := (Sm (rgN sh k))) (by omega)]
  refine lv_lmul hx hb dX9_findTone_120 ?_
  rw [show ((lN (Ba (rgN sh k))) * (lN ((Gr (rgN sh k)) - (Sm (rgN sh k)))) : Int64) = lN ((Ba (rgN sh k)) * ((Gr (rgN sh k)) - (Sm (rgN sh k)))) from lN_mul (Ba (rgN sh k)) ((Gr (rgN sh k)) - (Sm (rgN sh k)))]
  refine lv_goto (tgt := 170) hx hb dX9_findTone_121 (by decide) ?_
  refine lv_lstore (lv' := [(5, .long (lN ((Ba (rgN sh k)) * ((Gr (rgN sh k)) - (Sm (rgN sh k)))))), (7, .long (lN (2 * (Gr (rgN sh k))))), (12, .long (lN (Gr (rgN sh k)))), (10, .long (lN (Sm (rgN sh k)))), (9, .int (nI (rgN sh k))), (4, .int (nI (seN sh Si k))), (3, .int 2), (0, .ref m0), (1, .int (nI k)), (2, .int 0)]) hx hb dX9_findTone_170 hl (by decide) rfl (fun ls hl => ?_)
  refine lv_iload_n hx hb dX9_findTone_172 rfl (lv_at hl 9 rfl) ?_
  refine lv_iconst (v := 1) hx hb dX9_findTone_173 (by decide) ?_
  refine lv_icmp_ne (tgt := 186) hx hb dX9_findTone_174 (by decide) (fun c_174 => ?_) (fun c_174 => by exfalso; revert c_174; decide)
  refine lv_iload_n hx hb dX9_findTone_186 rfl (lv_at hl 9 rfl) ?_
  refine lv_iconst (v := 2) hx hb dX9_findTone_187 (by decide) ?_
  refine lv_icmp_ne (tgt := 199) hx hb dX9_findTone_188 (by decide) (fun c_188 => ?_) (fun c_188 => by exfalso; revert c_188; decide)
  refine lv_lload hx hb dX9_findTone_199 (lv_at hl 0 rfl) ?_
  refine lv_lstore (lv' := [(5, .long (lN ((Ba (rgN sh k)) * ((Gr (rgN sh k)) - (Sm (rgN sh k)))))), (7, .long (lN (2 * (Gr (rgN sh k))))), (12, .long (lN (Gr (rgN sh k)))), (10, .long (lN (Sm (rgN sh k)))), (9, .int (nI (rgN sh k))), (4, .int (nI (seN sh Si k))), (3, .int 2), (0, .ref m0), (1, .int (nI k)), (2, .int 0)]) hx hb dX9_findTone_201 hl (by decide) rfl (fun ls hl => ?_)
  refine lv_aload_n hx hb dX9_findTone_203 rfl (lv_at hl 7 rfl) ?_
  refine lv_aload_n hx hb dX9_findTone_204 rfl (lv_at hl 7 rfl) ?_
  refine va_get (D := E.1) (ci := 9) (v := .ref rO) (C := RX9) (T := TX9) (N := 32) hx hb hts hinX9 hown hK hP 0 rfl rfl 1 (by decide) (hts (.fieldLink RX9 13 "WornRingsModel" "over" "[J") (by decide +kernel)) (fun _ h9 => h9) rfl dX9_findTone_205 ?_
  refine lv_iload hx hb dX9_findTone_208 (lv_at hl 5 rfl) ?_
  refine va_lald hx hb hK hP 1 2 rfl rfl (vp_in_nI (by omega) (by omega)) dX9_findTone_210 ?_
  rw [nI_clamp (n := seN sh Si k) (by omega)]
  refine W.eq (g2 := F0 m 211 ls [.long (lN (U (seN sh Si k))), .ref m0]) rfl ?_
  refine lv_lload hx hb dX9_findTone_211 (lv_at hl 0 rfl) ?_
  refine lv_lmul hx hb dX9_findTone_213 ?_
  rw [show ((lN (U (seN sh Si k))) * (lN ((Ba (rgN sh k)) * ((Gr (rgN sh k)) - (Sm (rgN sh k))))) : Int64) = lN ((U (seN sh Si k)) * ((Ba (rgN sh k)) * ((Gr (rgN sh k)) - (Sm (rgN sh k))))) from lN_mul (U (seN sh Si k)) ((Ba (rgN sh k)) * ((Gr (rgN sh k)) - (Sm (rgN sh k))))]
  refine lv_aload_n hx hb dX9_findTone_214 rfl (lv_at hl 7 rfl) ?_
  refine va_get (D := E.1) (ci := 9) (v := .ref rU) (C := RX9) (T := TX9) (N := 32) hx hb hts hinX9 hown hK hP 0 rfl rfl 2 (by decide) (hts (.fieldLink RX9 17 "WornRingsModel" "under" "[J") (by decide +kernel)) (fun _ h9 => h9) rfl dX9_findTone_215 ?_
  refine lv_iload hx hb dX9_findTone_218 (lv_at hl 5 rfl) ?_
  refine va_lald hx hb hK hP 2 2 rfl rfl (vp_in_nI (by omega) (by omega)) dX9_findTone_220 ?_
  rw [nI_clamp (n := seN sh Si k) (by omega)]
  refine W.eq (g2 := F0 m 221 ls [.long (lN (V (seN sh Si k))), .long (lN ((U (seN sh Si k)) * ((Ba (rgN sh k)) * ((Gr (rgN sh k)) - (Sm (rgN sh k)))))), .ref m0]) rfl ?_
  refine lv_lload hx hb dX9_findTone_221 (lv_at hl 1 rfl) ?_
  refine lv_lmul hx hb dX9_findTone_223 ?_
  rw [show ((lN (V (seN sh Si k))) * (lN (2 * (Gr (rgN sh k)))) : Int64) = lN ((V (seN sh Si k)) * (2 * (Gr (rgN sh k)))) from lN_mul (V (seN sh Si k)) (2 * (Gr (rgN sh k)))]
  refine wVv (wr := [(rO, .inl (E.2 2, 4, .inr (.inl (lA U)))), (rU, .inl (E.2 2, 4, .inr (.inl (lA V)))), (rT, .inl (E.2 1, 4, .inl (nA Te))), (rS, .inl (E.2 1, 8, .inl (nA Si))), (rB, .inl (E.2 1, 8, .inl (nA Ba))), (rP, .inl (E.2 1, 8, .inl (nA Sm))), (rG, .inl (E.2 1, 8, .inl (nA Gr)))]) hE ⟨hx, hb, hml, hown, hts⟩ (c_X9_reduce l E s.heap.size m0 (nI sh) rO rU rT (nI rg) rS rB rP rG ab0 be0 mk rM md rN rL rZ rE rI hc rA rX lnn rV rW sl rC rF rQ rK rR rD ((U (seN sh Si k)) * ((Ba (rgN sh k)) * ((Gr (rgN sh k)) - (Sm (rgN sh k))))) ((V (seN sh Si k)) * (2 * (Gr (rgN sh k)))) (Nat.mul_pos hU1 (by omega)) (Nat.lt_of_le_of_lt (Nat.mul_le_mul hU2 (show _ ≤ 20000 by omega)) (by decide)) (Nat.mul_pos hV1 (by omega)) (Nat.lt_of_le_of_lt (Nat.mul_le_mul hV2 (show _ ≤ 20000 by omega)) (by decide))) (cwV 2 hts gX9_findTone_X9_reduce rfl rfl rfl (by decide +kernel) ⟨Nat.le_of_ble_eq_true rfl, Nat.le_of_ble_eq_true rfl⟩) hP hD hS hA [0] [1, 2, 3, 4, 5, 6, 7] rfl rfl (by decide) (by decide) (by decide) 0 9 rfl rfl rfl hl.1 rfl (Nat.le_of_ble_eq_true rfl) dX9_findTone_224 ⟨(Nat.zero_le _), (Nat.zero_le _)⟩ (fun u H locs hw hP hD hS => ?_)
  have hP : va_P E.1 vwCl [(rO, .inl (E.2 2, 4, .inr (.inl (lA U)))), (rU, .inl (E.2 2, 4, .inr (.inl (lA V)))), (rT, .inl (E.2 1, 4, .inl (nA Te))), (rS, .inl (E.2 1, 8, .inl (nA Si))), (rB, .inl (E.2 1, 8, .inl (nA Ba))), (rP, .inl (E.2 1, 8, .inl (nA Sm))), (rG, .inl (E.2 1, 8, .inl (nA Gr))), (m0, .inr (9, [.int (nI sh), .ref rO, .ref rU, .ref rT, .int (nI rg), .ref rS, .ref rB, .ref rP, .ref rG, .long (lN (tA ((U (seN sh Si k)) * ((Ba (rgN sh k)) * ((Gr (rgN sh k)) - (Sm (rgN sh k))))) ((V (seN sh Si k)) * (2 * (Gr (rgN sh k)))))), .long (lN (tB ((U (seN sh Si k)) * ((Ba (rgN sh k)) * ((Gr (rgN sh k)) - (Sm (rgN sh k))))) ((V (seN sh Si k)) * (2 * (Gr (rgN sh k)))))), .int mk, .ref rM, .int md, .ref rN, .ref rL, .ref rZ, .ref rE, .ref rI, .int hc, .ref rA, .ref rX, .int lnn, .ref rV, .ref rW, .int sl, .ref rC, .ref rF, .ref rQ, .ref rK, .ref rR, .ref rD]))] H := hP
  have hD : va_D A [(rO, .inl (E.2 2, 4, .inr (.inl (lA U)))), (rU, .inl (E.2 2, 4, .inr (.inl (lA V)))), (rT, .inl (E.2 1, 4, .inl (nA Te))), (rS, .inl (E.2 1, 8, .inl (nA Si))), (rB, .inl (E.2 1, 8, .inl (nA Ba))), (rP, .inl (E.2 1, 8, .inl (nA Sm))), (rG, .inl (E.2 1, 8, .inl (nA Gr))), (m0, .inr (9, [.int (nI sh), .ref rO, .ref rU, .ref rT, .int (nI rg), .ref rS, .ref rB, .ref rP, .ref rG, .long (lN (tA ((U (seN sh Si k)) * ((Ba (rgN sh k)) * ((Gr (rgN sh k)) - (Sm (rgN sh k))))) ((V (seN sh Si k)) * (2 * (Gr (rgN sh k)))))), .long (lN (tB ((U (seN sh Si k)) * ((Ba (rgN sh k)) * ((Gr (rgN sh k)) - (Sm (rgN sh k))))) ((V (seN sh Si k)) * (2 * (Gr (rgN sh k)))))), .int mk, .ref rM, .int md, .ref rN, .ref rL, .ref rZ, .ref rE, .ref rI, .int hc, .ref rA, .ref rX, .int lnn, .ref rV, .ref rW, .int sl, .ref rC, .ref rF, .ref rQ, .ref rK, .ref rR, .ref rD]))] := hD
  have e9 : ([(m0, .inr (9, [.int (nI sh), .ref rO, .ref rU, .ref rT, .int (nI rg), .ref rS, .ref rB, .ref rP, .ref rG, .long (lN (tA (U (seN sh Si k) * (Ba (rgN sh k) * (Gr (rgN sh k) - Sm (rgN sh k)))) (V (seN sh Si k) * (2 * Gr (rgN sh k))))), .long (lN (tB (U (seN sh Si k) * (Ba (rgN sh k) * (Gr (rgN sh k) - Sm (rgN sh k)))) (V (seN sh Si k) * (2 * Gr (rgN sh k))))), .int mk, .ref rM, .int md, .ref rN, .ref rL, .ref rZ, .ref rE, .ref rI, .int hc, .ref rA, .ref rX, .int lnn, .ref rV, .ref rW, .int sl, .ref rC, .ref rF, .ref rQ, .ref rK, .ref rR, .ref rD])), (rO, .inl (E.2 2, 4, .inr (.inl (lA U)))), (rU, .inl (E.2 2, 4, .inr (.inl (lA V)))), (rT, .inl (E.2 1, 4, .inl (nA Te))), (rS, .inl (E.2 1, 8, .inl (nA Si))), (rB, .inl (E.2 1, 8, .inl (nA Ba))), (rP, .inl (E.2 1, 8, .inl (nA Sm))), (rG, .inl (E.2 1, 8, .inl (nA Gr)))] : va_W) = [(m0, .inr (9, [.int (nI sh), .ref rO, .ref rU, .ref rT, .int (nI rg), .ref rS, .ref rB, .ref rP, .ref rG, .long (lN (tA ((U (seN sh Si k)) * ((Ba (rgN sh k)) * ((Gr (rgN sh k)) - (Sm (rgN sh k))))) ((V (seN sh Si k)) * (2 * (Gr (rgN sh k)))))), .long (lN (tB ((U (seN sh Si k)) * ((Ba (rgN sh k)) * ((Gr (rgN sh k)) - (Sm (rgN sh k))))) ((V (seN sh Si k)) * (2 * (Gr (rgN sh k)))))), .int mk, .ref rM, .int md, .ref rN, .ref rL, .ref rZ, .ref rE, .ref rI, .int hc, .ref rA, .ref rX, .int lnn, .ref rV, .ref rW, .int sl, .ref rC, .ref rF, .ref rQ, .ref rK, .ref rR, .ref rD])), (rO, .inl (E.2 2, 4, .inr (.inl (lA U)))), (rU, .inl (E.2 2, 4, .inr (.inl (lA V)))), (rT, .inl (E.2 1, 4, .inl (nA Te))), (rS, .inl (E.2 1, 8, .inl (nA Si))), (rB, .inl (E.2 1, 8, .inl (nA Ba))), (rP, .inl (E.2 1, 8, .inl (nA Sm))), (rG, .inl (E.2 1, 8, .inl (nA Gr)))] := by rfl
  have hP9 : va_P E.1 vwCl [(m0, .inr (9, [.int (nI sh), .ref rO, .ref rU, .ref rT, .int (nI rg), .ref rS, .ref rB, .ref rP, .ref rG, .long (lN (tA (U (seN sh Si k) * (Ba (rgN sh k) * (Gr (rgN sh k) - Sm (rgN sh k)))) (V (seN sh Si k) * (2 * Gr (rgN sh k))))), .long (lN (tB (U (seN sh Si k) * (Ba (rgN sh k) * (Gr (rgN sh k) - Sm (rgN sh k)))) (V (seN sh Si k) * (2 * Gr (rgN sh k))))), .int mk, .ref rM, .int md, .ref rN, .ref rL, .ref rZ, .ref rE, .ref rI, .int hc, .ref rA, .ref rX, .int lnn, .ref rV, .ref rW, .int sl, .ref rC, .ref rF, .ref rQ, .ref rK, .ref rR, .ref rD])), (rO, .inl (E.2 2, 4, .inr (.inl (lA U)))), (rU, .inl (E.2 2, 4, .inr (.inl (lA V)))), (rT, .inl (E.2 1, 4, .inl (nA Te))), (rS, .inl (E.2 1, 8, .inl (nA Si))), (rB, .inl (E.2 1, 8, .inl (nA Ba))), (rP, .inl (E.2 1, 8, .inl (nA Sm))), (rG, .inl (E.2 1, 8, .inl (nA Gr)))] H := by rw [e9]; exact hP.sub [7, 0, 1, 2, 3, 4, 5, 6] rfl
  have hD9 : va_D A [(m0, .inr (9, [.int (nI sh), .ref rO, .ref rU, .ref rT, .int (nI rg), .ref rS, .ref rB, .ref rP, .ref rG, .long (lN (tA (U (seN sh Si k) * (Ba (rgN sh k) * (Gr (rgN sh k) - Sm (rgN sh k)))) (V (seN sh Si k) * (2 * Gr (rgN sh k))))), .long (lN (tB (U (seN sh Si k) * (Ba (rgN sh k) * (Gr (rgN sh k) - Sm (rgN sh k)))) (V (seN sh Si k) * (2 * Gr (rgN sh k))))), .int mk, .ref rM, .int md, .ref rN, .ref rL, .ref rZ, .ref rE, .ref rI, .int hc, .ref rA, .ref rX, .int lnn, .ref rV, .ref rW, .int sl, .ref rC, .ref rF, .ref rQ, .ref rK, .ref rR, .ref rD])), (rO, .inl (E.2 2, 4, .inr (.inl (lA U)))), (rU, .inl (E.2 2, 4, .inr (.inl (lA V)))), (rT, .inl (E.2 1, 4, .inl (nA Te))), (rS, .inl (E.2 1, 8, .inl (nA Si))), (rB, .inl (E.2 1, 8, .inl (nA Ba))), (rP, .inl (E.2 1, 8, .inl (nA Sm))), (rG, .inl (E.2 1, 8, .inl (nA Gr)))] := by rw [e9]; exact hD.sub [7, 0, 1, 2, 3, 4, 5, 6] (by decide) rfl
  exact W.vret hx hb hr (fun t9 ht9 hW9 => ⟨⟨(), rfl, trivial, ⟨by rw [ht9]; exact hP9, hD9⟩⟩, hS.F ht9⟩) hS.2.2 dX9_findTone_227
set_option maxHeartbeats 1000000 in
set_option maxRecDepth 100000 in
theorem c_X9_findTone_2_1 (l : Launch) (E : EnvT) (sz : Nat) (m0 : Nat) (sh : Nat) (rO : Nat) (rU : Nat) (rT : Nat) (rg : Nat) (rS : Nat) (rB : Nat) (rP : Nat) (rG : Nat) (ab0 : Int64) (be0 : Int64) (mk : Int32) (rM : Nat) (md : Int32) (rN : Nat) (rL : Nat) (rZ : Nat) (rE : Nat) (rI : Nat) (hc : Int32) (rA : Nat) (rX : Nat) (lnn : Int32) (rV : Nat) (rW : Nat) (sl : Int32) (rC : Nat) (rF : Nat) (rQ : Nat) (rK : Nat) (rR : Nat) (rD : Nat) (U : Nat → Nat) (V : Nat → Nat) (Te : Nat → Nat) (Si : Nat → Nat) (Ba : Nat → Nat) (Sm : Nat → Nat) (Gr : Nat → Nat) (k : Nat) (hs1 : 1 ≤ sh) (hs4 : sh ≤ 4) (hr8 : rg ≤ 8) (hk : k < 2 * sh - 1 + 4 * rg) (hse : seN sh Si k < 4) (hU1 : 0 < U (seN sh Si k)) (hU2 : U (seN sh Si k) ≤ 8000000) (hV1 : 0 < V (seN sh Si k)) (hV2 : V (seN sh Si k) ≤ 8000000) (hkd : kdN sh k = 2) (hk2 : 2 * sh - 1 ≤ k) (hrr : rgN sh k < 8) (hb1 : 3 ≤ Ba (rgN sh k)) (hb2 : Ba (rgN sh k) ≤ 30) (hp1 : 1 ≤ Sm (rgN sh k)) (hpq : Sm (rgN sh k) < Gr (rgN sh k)) (hq2 : Gr (rgN sh k) ≤ 100) : Met l yX9_findTone wsX9_findTone ({ frames := 2, cells := 0, slots := 0, locals := 42 }) (va_Pc [.ref m0, .int (nI k), .int 1] (PW E [(m0, .inr (9, [.int (nI sh), .ref rO, .ref rU, .ref rT, .int (nI rg), .ref rS, .ref rB, .ref rP, .ref rG, .long ab0, .long be0, .int mk, .ref rM, .int md, .ref rN, .ref rL, .ref rZ, .ref rE, .ref rI, .int hc, .ref rA, .ref rX, .int lnn, .ref rV, .ref rW, .int sl, .ref rC, .ref rF, .ref rQ, .ref rK, .ref rR, .ref rD])), (rO, .inl (E.2 2, 4, .inr (.inl (lA U)))), (rU, .inl (E.2 2, 4, .inr (.inl (lA V)))), (rT, .inl (E.2 1, 4, .inl (nA Te))), (rS, .inl (E.2 1, 8, .inl (nA Si))), (rB, .inl (E.2 1, 8, .inl (nA Ba))), (rP, .inl (E.2 1, 8, .inl (nA Sm))), (rG, .inl (E.2 1, 8, .inl (nA Gr)))] sz)) (va_Qv (fun (uu : Unit) => True) (fun (uu : Unit) t => BW E (va_A [(m0, .inr (9, [.int (nI sh), .ref rO, .ref rU, .ref rT, .int (nI rg), .ref rS, .ref rB, .ref rP, .ref rG, .long ab0, .long be0, .int mk, .ref rM, .int md, .ref rN, .ref rL, .ref rZ, .ref rE, .ref rI, .int hc, .ref rA, .ref rX, .int lnn, .ref rV, .ref rW, .int sl, .ref rC, .ref rF, .ref rQ, .ref rK, .ref rR, .ref rD])), (rO, .inl (E.2 2, 4, .inr (.inl (lA U)))), (rU, .inl (E.2 2, 4, .inr (.inl (lA V)))), (rT, .inl (E.2 1, 4, .inl (nA Te))), (rS, .inl (E.2 1, 8, .inl (nA Si))), (rB, .inl (E.2 1, 8, .inl (nA Ba))), (rP, .inl (E.2 1, 8, .inl (nA Sm))), (rG, .inl (E.2 1, 8, .inl (nA Gr)))] sz) [(m0, .inr (9, [.int (nI sh), .ref rO, .ref rU, .ref rT, .int (nI rg), .ref rS, .ref rB, .ref rP, .ref rG, .long (lN (tA (U (seN sh Si k) * (2 * (Ba (rgN sh k) * (Gr (rgN sh k) - Sm (rgN sh k))))) (V (seN sh Si k) * (2 * Gr (rgN sh k))))), .long (lN (tB (U (seN sh Si k) * (2 * (Ba (rgN sh k) * (Gr (rgN sh k) - Sm (rgN sh k))))) (V (seN sh Si k) * (2 * Gr (rgN sh k))))), .int mk, .ref rM, .int md, .ref rN, .ref rL, .ref rZ, .ref rE, .ref rI, .int hc, .ref rA, .ref rX, .int lnn, .ref rV, .ref rW, .int sl, .ref rC, .ref rF, .ref rQ, .ref rK, .ref rR, .ref rD])), (rO, .inl (E.2 2, 4, .inr (.inl (lA U)))), (rU, .inl (E.2 2, 4, .inr (.inl (lA V)))), (rT, .inl (E.2 1, 4, .inl (nA Te))), (rS, .inl (E.2 1, 8, .inl (nA Si))), (rB, .inl (E.2 1, 8, .inl (nA Ba))), (rP, .inl (E.2 1, 8, .inl (nA Sm))), (rG, .inl (E.2 1, 8, .inl (nA Gr)))] t) (va_A [(m0, .inr (9, [.int (nI sh), .ref rO, .ref rU, .ref rT, .int (nI rg), .ref rS, .ref rB, .ref rP, .ref rG, .long ab0, .long be0, .int mk, .ref rM, .int md, .ref rN, .ref rL, .ref rZ, .ref rE, .ref rI, .int hc, .ref rA, .ref rX, .int lnn, .ref rV, .ref rW, .int sl, .ref rC, .ref rF, .ref rQ, .ref rK, .ref rR, .ref rD])), (rO, .inl (E.2 2, 4, .inr (.inl (lA U)))), (rU, .inl (E.2 2, 4, .inr (.inl (lA V)))), (rT, .inl (E.2 1, 4, .inl (nA Te))), (rS, .inl (E.2 1, 8, .inl (nA Si))), (rB, .inl (E.2 1, 8, .inl (nA Ba))), (rP, .inl (E.2 1, 8, .inl (nA Sm))), (rG, .inl (E.2 1, 8, .inl (nA Gr)))] sz)) 0 0 (va_A [(m0, .inr (9, [.int (nI sh), .ref rO, .ref rU, .ref rT, .int (nI rg), .ref rS, .ref rB, .ref rP, .ref rG, .long ab0, .long be0, .int mk, .ref rM, .int md, .ref rN, .ref rL, .ref rZ, .ref rE, .ref rI, .int hc, .ref rA, .ref rX, .int lnn, .ref rV, .ref rW, .int sl, .ref rC, .ref rF, .ref rQ, .ref rK, .ref rR, .ref rD])), (rO, .inl (E.2 2, 4, .inr (.inl (lA U)))), (rU, .inl (E.2 2, 4, .inr (.inl (lA V)))), (rT, .inl (E.2 1, 4, .inl (nA Te))), (rS, .inl (E.2 1, 8, .inl (nA Si))), (rB, .inl (E.2 1, 8, .inl (nA Ba))), (rP, .inl (E.2 1, 8, .inl (nA Sm))), (rG, .inl (E.2 1, 8, .inl (nA Gr)))] sz) := by
  refine Met.ofW (cc := cX9_findTone) (maxL := 14) (ret := none) (by decide +kernel) rfl ?_
  intro p e s m args below meth c s₁ B hml hv
  obtain ⟨rfl, hsz, hP, hE, hD0⟩ := hv
  have hx := B.exec
  have hb := B.bytes
  have hr := B.returns
  have hts := atoms_spec (ws := wsX9_findTone) B.pre
  have hown : s.vm.findClass RX9 = some m.cls := findClass_of_methodNamed B.named
  have hlocks := B.notSynchronized
  have hK := hE.1
  have hNN := hE.2.1
  have hinX9 : ∀ w ∈ wsX90, w ∈ wsX9_findTone := fun w h => List.mem_cons_of_mem _ (List.mem_append_right _ h)
  subst hsz
  have hD := hD0.self (sz := s.heap.size)
  generalize hAe : va_A [(m0, .inr (9, [.int (nI sh), .ref rO, .ref rU, .ref rT, .int (nI rg), .ref rS, .ref rB, .ref rP, .ref rG, .long ab0, .long be0, .int mk, .ref rM, .int md, .ref rN, .ref rL, .ref rZ, .ref rE, .ref rI, .int hc, .ref rA, .ref rX, .int lnn, .ref rV, .ref rW, .int sl, .ref rC, .ref rF, .ref rQ, .ref rK, .ref rR, .ref rD])), (rO, .inl (E.2 2, 4, .inr (.inl (lA U)))), (rU, .inl (E.2 2, 4, .inr (.inl (lA V)))), (rT, .inl (E.2 1, 4, .inl (nA Te))), (rS, .inl (E.2 1, 8, .inl (nA Si))), (rB, .inl (E.2 1, 8, .inl (nA Ba))), (rP, .inl (E.2 1, 8, .inl (nA Sm))), (rG, .inl (E.2 1, 8, .inl (nA Gr)))] s.heap.size = A at hD ⊢
  have hA : ∀ q : Nat, s.heap.size ≤ q → A q := fun q h => by rw [← hAe]; exact Or.inr h
  have hS : va_S A s.heap s.heap [] := va_S.rf
  have hl := lv_entry ([.ref m0, .int (nI k), .int 1]) (n := 14) (Nat.le_of_ble_eq_true rfl)
  rw [lg_entry_eq]
  generalize (lg_sl ([.ref m0, .int (nI k), .int 1]) ++ List.replicate (14 - (lg_sl ([.ref m0, .int (nI k), .int 1])).length) Slot.unset).toArray = ls at hl ⊢
  have hl : lv_has ls 14 [(0, .ref m0), (1, .int (nI k)), (2, .int 1)] := hl
  have g1 : 0 < Ba (rgN sh k) * (Gr (rgN sh k) - Sm (rgN sh k)) := Nat.mul_pos (by omega) (by omega)
  have g2 : Ba (rgN sh k) * (Gr (rgN sh k) - Sm (rgN sh k)) ≤ 30 * 100 := Nat.mul_le_mul hb2 (by omega)
  refine lv_aload_n hx hb dX9_findTone_0 rfl (lv_at hl 0 rfl) ?_
  refine lv_iload_n hx hb dX9_findTone_1 rfl (lv_at hl 1 rfl) ?_
  refine rVi hE ⟨hx, hb, hml, hown, hts⟩ (c_X9_kindOf l E m0 sh rO rU rT rg rS rB rP rG ab0 be0 mk rM md rN rL rZ rE rI hc rA rX lnn rV rW sl rC rF rQ rK rR rD k (hs1) (hs4) (hr8) (hk)) (cwV 1 hts gX9_findTone_X9_kindOf rfl rfl rfl (by decide +kernel) ⟨Nat.le_of_ble_eq_true rfl, Nat.le_of_ble_eq_true rfl⟩) (hP.sub [0] rfl) 0 9 rfl rfl rfl hl.1 rfl (Nat.le_of_ble_eq_true rfl) dX9_findTone_2 ⟨(Nat.zero_le _), (Nat.zero_le _)⟩ ?_
  rw [show (nI (kdN sh k) : Int32) = 2 from by rw [hkd]; rfl]
  refine lv_istore_n (lv' := [(3, .int 2), (0, .ref m0), (1, .int (nI k)), (2, .int 1)]) hx hb dX9_findTone_5 rfl hl (by decide) rfl (fun ls hl => ?_)
  refine lv_aload_n hx hb dX9_findTone_6 rfl (lv_at hl 1 rfl) ?_
  refine lv_iload_n hx hb dX9_findTone_7 rfl (lv_at hl 2 rfl) ?_
  refine rVi hE ⟨hx, hb, hml, hown, hts⟩ (c_X9_shaftOf l E m0 sh rO rU rT rg rS rB rP rG ab0 be0 mk rM md rN rL rZ rE rI hc rA rX lnn rV rW sl rC rF rQ rK rR rD Si k (hs1) (hs4) (hr8) (hk)) (cwV 1 hts gX9_findTone_X9_shaftOf rfl rfl rfl (by decide +kernel) ⟨Nat.le_of_ble_eq_true rfl, Nat.le_of_ble_eq_true rfl⟩) (hP.sub [0, 4] rfl) 0 9 rfl rfl rfl hl.1 rfl (Nat.le_of_ble_eq_true rfl) dX9_findTone_8 ⟨(Nat.zero_le _), (Nat.zero_le _)⟩ ?_
  refine lv_istore (lv' := [(4, .int (nI (seN sh Si k))), (3, .int 2), (0, .ref m0), (1, .int (nI k)), (2, .int 1)]) hx hb dX9_findTone_11 hl (by decide) rfl (fun ls hl => ?_)
  refine lv_iload_n hx hb dX9_findTone_13 rfl (lv_at hl 4 rfl) ?_
  refine lv_i2l (v := 1) hx hb dX9_findTone_14 (by decide) ?_
  refine lv_lconst (v := 1) hx hb dX9_findTone_15 (by decide) ?_
  refine lv_ladd hx hb dX9_findTone_16 ?_
  rw [show ((1 : Int64) + (1 : Int64) : Int64) = lN (2) from lN_add 1 1]
  refine lv_lstore (lv' := [(5, .long (lN (2))), (4, .int (nI (seN sh Si k))), (3, .int 2), (0, .ref m0), (1, .int (nI k)), (2, .int 1)]) hx hb dX9_findTone_17 hl (by decide) rfl (fun ls hl => ?_)
  refine lv_lconst (v := 1) hx hb dX9_findTone_19 (by decide) ?_
  refine lv_lstore (lv' := [(7, .long 1), (5, .long (lN (2))), (4, .int (nI (seN sh Si k))), (3, .int 2), (0, .ref m0), (1, .int (nI k)), (2, .int 1)]) hx hb dX9_findTone_20 hl (by decide) rfl (fun ls hl => ?_)
  refine lv_iload_n hx hb dX9_findTone_22 rfl (lv_at hl 3 rfl) ?_
  refine lv_iconst (v := 1) hx hb dX9_findTone_23 (by decide) ?_
  refine lv_icmp_ne (tgt := 45) hx hb dX9_findTone_24 (by decide) (fun c_24 => ?_) (fun c_24 => by exfalso; revert c_24; decide)
  refine lv_iload_n hx hb dX9_findTone_45 rfl (lv_at hl 3 rfl) ?_
  refine lv_iconst (v := 1) hx hb dX9_findTone_46 (by decide) ?_
  refine lv_icmp_le (tgt := 203) hx hb dX9_findTone_47 (by decide) (fun c_47 => by exfalso; revert c_47; decide) (fun c_47 => ?_)
  refine lv_aload_n hx hb dX9_findTone_50 rfl (lv_at hl 4 rfl) ?_
  refine lv_iload_n hx hb dX9_findTone_51 rfl (lv_at hl 5 rfl) ?_
  refine rVi hE ⟨hx, hb, hml, hown, hts⟩ (c_X9_ringOf l E m0 sh rO rU rT rg rS rB rP rG ab0 be0 mk rM md rN rL rZ rE rI hc rA rX lnn rV rW sl rC rF rQ rK rR rD k (hs1) (hs4) (hr8) (hk) (hk2)) (cwV 1 hts gX9_findTone_X9_ringOf rfl rfl rfl (by decide +kernel) ⟨Nat.le_of_ble_eq_true rfl, Nat.le_of_ble_eq_true rfl⟩) (hP.sub [0] rfl) 0 9 rfl rfl rfl hl.1 rfl (Nat.le_of_ble_eq_true rfl) dX9_findTone_52 ⟨(Nat.zero_le _), (Nat.zero_le _)⟩ ?_
  refine lv_istore (lv' := [(9, .int (nI (rgN sh k))), (7, .long 1), (5, .long (lN (2))), (4, .int (nI (seN sh Si k))), (3, .int 2), (0, .ref m0), (1, .int (nI k)), (2, .int 1)]) hx hb dX9_findTone_55 hl (by decide) rfl (fun ls hl => ?_)
  refine lv_aload_n hx hb dX9_findTone_57 rfl (lv_at hl 5 rfl) ?_
  refine va_get (D := E.1) (ci := 9) (v := .ref rP) (C := RX9) (T := TX9) (N := 32) hx hb hts hinX9 hown hK hP 0 rfl rfl 7 (by decide) (hts (.fieldLink RX9 30 "WornRingsModel" "small" "[I") (by decide +kernel)) (fun _ h9 => h9) rfl dX9_findTone_58 ?_
  refine lv_iload hx hb dX9_findTone_61 (lv_at hl 0 rfl) ?_
  refine va_iald hx hb hK hP 6 1 rfl rfl (vp_in_nI (by omega) (by omega)) dX9_findTone_63 ?_
  rw [nI_clamp (n := rgN sh k) (by omega)]
  refine W.eq (g2 := F0 m 64 ls [.int (nI (Sm (rgN sh k)))]) rfl ?_
  refine lv_i2l (v := lN (Sm (rgN sh k))) hx hb dX9_findTone_64 (nI_l (by omega)) ?_
  refine lv_lstore (lv' := [(10, .long (lN (Sm (rgN sh k)))), (9, .int (nI (rgN sh k))), (7, .long 1), (5, .long (lN (2))), (4, .int (nI (seN sh Si k))), (3, .int 2), (0, .ref m0), (1, .int (nI k)), (2, .int 1)]) hx hb dX9_findTone_65 hl (by decide) rfl (fun ls hl => ?_)
  refine lv_aload_n hx hb dX9_findTone_67 rfl (lv_at hl 6 rfl) ?_
  refine va_get (D := E.1) (ci := 9) (v := .ref rG) (C := RX9) (T := TX9) (N := 32) hx hb hts hinX9 hown hK hP 0 rfl rfl 8 (by decide) (hts (.fieldLink RX9 33 "WornRingsModel" "great" "[I") (by decide +kernel)) (fun _ h9 => h9) rfl dX9_findTone_68 ?_
  refine lv_iload hx hb dX9_findTone_71 (lv_at hl 1 rfl) ?_
  refine va_iald hx hb hK hP 7 1 rfl rfl (vp_in_nI (by omega) (by omega)) dX9_findTone_73 ?_
  rw [nI_clamp (n := rgN sh k) (by omega)]
  refine W.eq (g2 := F0 m 74 ls [.int (nI (Gr (rgN sh k)))]) rfl ?_
  refine lv_i2l (v := lN (Gr (rgN sh k))) hx hb dX9_findTone_74 (nI_l (by omega)) ?_
  refine lv_lstore (lv' := [(12, .long (lN (Gr (rgN sh k)))), (10, .long (lN (Sm (rgN sh k)))), (9, .int (nI (rgN sh k))), (7, .long 1), (5, .long (lN (2))), (4, .int (nI (seN sh Si k))), (3, .int 2), (0, .ref m0), (1, .int (nI k)), (2, .int 1)]) hx hb dX9_findTone_75 hl (by decide) rfl (fun ls hl => ?_)
  refine lv_iload_n hx hb dX9_findTone_77 rfl (lv_at hl 6 rfl) ?_
  refine lv_iconst (v := 5) hx hb dX9_findTone_78 (by decide) ?_
  refine lv_icmp_ne (tgt := 94) hx hb dX9_findTone_79 (by decide) (fun c_79 => ?_) (fun c_79 => by exfalso; revert c_79; decide)
  refine lv_ldc2 (v := 2) hx hb hown (hts (.constantLong RX9 140 (2)) (by decide +kernel)) dX9_findTone_94 ?_
  refine lv_lload hx hb dX9_findTone_97 (lv_at hl 0 rfl) ?_
  refine lv_lmul hx hb dX9_findTone_99 ?_
  rw [show ((2 : Int64) * (lN (Gr (rgN sh k))) : Int64) = lN (2 * (Gr (rgN sh k))) from lN_mul 2 (Gr (rgN sh k))]
  refine lv_lstore (lv' := [(7, .long (lN (2 * (Gr (rgN sh k))))), (12, .long (lN (Gr (rgN sh k)))), (10, .long (lN (Sm (rgN sh k)))), (9, .int (nI (rgN sh k))), (5, .long (lN (2))), (4, .int (nI (seN sh Si k))), (3, .int 2), (0, .ref m0), (1, .int (nI k)), (2, .int 1)]) hx hb dX9_findTone_100 hl (by decide) rfl (fun ls hl => ?_)
  refine lv_iload_n hx hb dX9_findTone_102 rfl (lv_at hl 6 rfl) ?_
  refine lv_iconst (v := 2) hx hb dX9_findTone_103 (by decide) ?_
  refine lv_icmp_ne (tgt := 124) hx hb dX9_findTone_104 (by decide) (fun c_104 => by exfalso; revert c_104; decide) (fun c_104 => ?_)
  refine lv_aload_n hx hb dX9_findTone_107 rfl (lv_at hl 7 rfl) ?_
  refine va_get (D := E.1) (ci := 9) (v := .ref rB) (C := RX9) (T := TX9) (N := 32) hx hb hts hinX9 hown hK hP 0 rfl rfl 6 (by decide) (hts (.fieldLink RX9 27 "WornRingsModel" "balls" "[I") (by decide +kernel)) (fun _ h9 => h9) rfl dX9_findTone_108 ?_
  refine lv_iload hx hb dX9_findTone_111 (lv_at hl 3 rfl) ?_
  refine va_iald hx hb hK hP 5 1 rfl rfl (vp_in_nI (by omega) (by omega)) dX9_findTone_113 ?_
  rw [nI_clamp (n := rgN sh k) (by omega)]
  refine W.eq (g2 := F0 m 114 ls [.int (nI (Ba (rgN sh k)))]) rfl ?_
  refine lv_i2l (v := lN (Ba (rgN sh k))) hx hb dX9_findTone_114 (nI_l (by omega)) ?_
  refine lv_lload hx hb dX9_findTone_115 (lv_at hl 1 rfl) ?_
  refine lv_lload hx hb dX9_findTone_117 (lv_at hl 2 rfl) ?_
  refine lv_lsub hx hb dX9_findTone_119 ?_
  rw [show ((lN (Gr (rgN sh k))) - (lN (Sm (rgN sh k))) : Int64) = lN ((Gr (rgN sh k)) - (Sm (rgN sh k))) from lN_sub (a := (Gr (rgN sh k))) (b := (Sm (rgN sh k))) (by omega)]
  refine lv_lmul hx hb dX9_findTone_120 ?_
  rw [show ((lN (Ba (rgN sh k))) * (lN ((Gr (rgN sh k)) - (Sm (rgN sh k)))) : Int64) = lN ((Ba (rgN sh k)) * ((Gr (rgN sh k)) - (Sm (rgN sh k)))) from lN_mul (Ba (rgN sh k)) ((Gr (rgN sh k)) - (Sm (rgN sh k)))]
  refine lv_goto (tgt := 170) hx hb dX9_findTone_121 (by decide) ?_
  refine lv_lstore (lv' := [(5, .long (lN ((Ba (rgN sh k)) * ((Gr (rgN sh k)) - (Sm (rgN sh k)))))), (7, .long (lN (2 * (Gr (rgN sh k))))), (12, .long (lN (Gr (rgN sh k)))), (10, .long (lN (Sm (rgN sh k)))), (9, .int (nI (rgN sh k))), (4, .int (nI (seN sh Si k))), (3, .int 2), (0, .ref m0), (1, .int (nI k)), (2, .int 1)]) hx hb dX9_findTone_170 hl (by decide) rfl (fun ls hl => ?_)
  refine lv_iload_n hx hb dX9_findTone_172 rfl (lv_at hl 9 rfl) ?_
  refine lv_iconst (v := 1) hx hb dX9_findTone_173 (by decide) ?_
  refine lv_icmp_ne (tgt := 186) hx hb dX9_findTone_174 (by decide) (fun c_174 => by exfalso; revert c_174; decide) (fun c_174 => ?_)
  refine lv_ldc2 (v := 2) hx hb hown (hts (.constantLong RX9 140 (2)) (by decide +kernel)) dX9_findTone_177 ?_
  refine lv_lload hx hb dX9_findTone_180 (lv_at hl 0 rfl) ?_
  refine lv_lmul hx hb dX9_findTone_182 ?_
  rw [show ((2 : Int64) * (lN ((Ba (rgN sh k)) * ((Gr (rgN sh k)) - (Sm (rgN sh k))))) : Int64) = lN (2 * ((Ba (rgN sh k)) * ((Gr (rgN sh k)) - (Sm (rgN sh k))))) from lN_mul 2 ((Ba (rgN sh k)) * ((Gr (rgN sh k)) - (Sm (rgN sh k))))]
  refine lv_goto (tgt := 201) hx hb dX9_findTone_183 (by decide) ?_
  refine lv_lstore (lv' := [(5, .long (lN (2 * ((Ba (rgN sh k)) * ((Gr (rgN sh k)) - (Sm (rgN sh k))))))), (7, .long (lN (2 * (Gr (rgN sh k))))), (12, .long (lN (Gr (rgN sh k)))), (10, .long (lN (Sm (rgN sh k)))), (9, .int (nI (rgN sh k))), (4, .int (nI (seN sh Si k))), (3, .int 2), (0, .ref m0), (1, .int (nI k)), (2, .int 1)]) hx hb dX9_findTone_201 hl (by decide) rfl (fun ls hl => ?_)
  refine lv_aload_n hx hb dX9_findTone_203 rfl (lv_at hl 7 rfl) ?_
  refine lv_aload_n hx hb dX9_findTone_204 rfl (lv_at hl 7 rfl) ?_
  refine va_get (D := E.1) (ci := 9) (v := .ref rO) (C := RX9) (T := TX9) (N := 32) hx hb hts hinX9 hown hK hP 0 rfl rfl 1 (by decide) (hts (.fieldLink RX9 13 "WornRingsModel" "over" "[J") (by decide +kernel)) (fun _ h9 => h9) rfl dX9_findTone_205 ?_
  refine lv_iload hx hb dX9_findTone_208 (lv_at hl 5 rfl) ?_
  refine va_lald hx hb hK hP 1 2 rfl rfl (vp_in_nI (by omega) (by omega)) dX9_findTone_210 ?_
  rw [nI_clamp (n := seN sh Si k) (by omega)]
  refine W.eq (g2 := F0 m 211 ls [.long (lN (U (seN sh Si k))), .ref m0]) rfl ?_
  refine lv_lload hx hb dX9_findTone_211 (lv_at hl 0 rfl) ?_
  refine lv_lmul hx hb dX9_findTone_213 ?_
  rw [show ((lN (U (seN sh Si k))) * (lN (2 * ((Ba (rgN sh k)) * ((Gr (rgN sh k)) - (Sm (rgN sh k)))))) : Int64) = lN ((U (seN sh Si k)) * (2 * ((Ba (rgN sh k)) * ((Gr (rgN sh k)) - (Sm (rgN sh k)))))) from lN_mul (U (seN sh Si k)) (2 * ((Ba (rgN sh k)) * ((Gr (rgN sh k)) - (Sm (rgN sh k)))))]
  refine lv_aload_n hx hb dX9_findTone_214 rfl (lv_at hl 7 rfl) ?_
  refine va_get (D := E.1) (ci := 9) (v := .ref rU) (C := RX9) (T := TX9) (N := 32) hx hb hts hinX9 hown hK hP 0 rfl rfl 2 (by decide) (hts (.fieldLink RX9 17 "WornRingsModel" "under" "[J") (by decide +kernel)) (fun _ h9 => h9) rfl dX9_findTone_215 ?_
  refine lv_iload hx hb dX9_findTone_218 (lv_at hl 5 rfl) ?_
  refine va_lald hx hb hK hP 2 2 rfl rfl (vp_in_nI (by omega) (by omega)) dX9_findTone_220 ?_
  rw [nI_clamp (n := seN sh Si k) (by omega)]
  refine W.eq (g2 := F0 m 221 ls [.long (lN (V (seN sh Si k))), .long (lN ((U (seN sh Si k)) * (2 * ((Ba (rgN sh k)) * ((Gr (rgN sh k)) - (Sm (rgN sh k))))))), .ref m0]) rfl ?_
  refine lv_lload hx hb dX9_findTone_221 (lv_at hl 1 rfl) ?_
  refine lv_lmul hx hb dX9_findTone_223 ?_
  rw [show ((lN (V (seN sh Si k))) * (lN (2 * (Gr (rgN sh k)))) : Int64) = lN ((V (seN sh Si k)) * (2 * (Gr (rgN sh k)))) from lN_mul (V (seN sh Si k)) (2 * (Gr (rgN sh k)))]
  refine wVv (wr := [(rO, .inl (E.2 2, 4, .inr (.inl (lA U)))), (rU, .inl (E.2 2, 4, .inr (.inl (lA V)))), (rT, .inl (E.2 1, 4, .inl (nA Te))), (rS, .inl (E.2 1, 8, .inl (nA Si))), (rB, .inl (E.2 1, 8, .inl (nA Ba))), (rP, .inl (E.2 1, 8, .inl (nA Sm))), (rG, .inl (E.2 1, 8, .inl (nA Gr)))]) hE ⟨hx, hb, hml, hown, hts⟩ (c_X9_reduce l E s.heap.size m0 (nI sh) rO rU rT (nI rg) rS rB rP rG ab0 be0 mk rM md rN rL rZ rE rI hc rA rX lnn rV rW sl rC rF rQ rK rR rD ((U (seN sh Si k)) * (2 * ((Ba (rgN sh k)) * ((Gr (rgN sh k)) - (Sm (rgN sh k)))))) ((V (seN sh Si k)) * (2 * (Gr (rgN sh k)))) (Nat.mul_pos hU1 (by omega)) (Nat.lt_of_le_of_lt (Nat.mul_le_mul hU2 (show _ ≤ 20000 by omega)) (by decide)) (Nat.mul_pos hV1 (by omega)) (Nat.lt_of_le_of_lt (Nat.mul_le_mul hV2 (show _ ≤ 20000 by omega)) (by decide))) (cwV 2 hts gX9_findTone_X9_reduce rfl rfl rfl (by decide +kernel) ⟨Nat.le_of_ble_eq_true rfl, Nat.le_of_ble_eq_true rfl⟩) hP hD hS hA [0] [1, 2, 3, 4, 5, 6, 7] rfl rfl (by decide) (by decide) (by decide) 0 9 rfl rfl rfl hl.1 rfl (Nat.le_of_ble_eq_true rfl) dX9_findTone_224 ⟨(Nat.zero_le _), (Nat.zero_le _)⟩ (fun u H locs hw hP hD hS => ?_)
  have hP : va_P E.1 vwCl [(rO, .inl (E.2 2, 4, .inr (.inl (lA U)))), (rU, .inl (E.2 2, 4, .inr (.inl (lA V)))), (rT, .inl (E.2 1, 4, .inl (nA Te))), (rS, .inl (E.2 1, 8, .inl (nA Si))), (rB, .inl (E.2 1, 8, .inl (nA Ba))), (rP, .inl (E.2 1, 8, .inl (nA Sm))), (rG, .inl (E.2 1, 8, .inl (nA Gr))), (m0, .inr (9, [.int (nI sh), .ref rO, .ref rU, .ref rT, .int (nI rg), .ref rS, .ref rB, .ref rP, .ref rG, .long (lN (tA ((U (seN sh Si k)) * (2 * ((Ba (rgN sh k)) * ((Gr (rgN sh k)) - (Sm (rgN sh k)))))) ((V (seN sh Si k)) * (2 * (Gr (rgN sh k)))))), .long (lN (tB ((U (seN sh Si k)) * (2 * ((Ba (rgN sh k)) * ((Gr (rgN sh k)) - (Sm (rgN sh k)))))) ((V (seN sh Si k)) * (2 * (Gr (rgN sh k)))))), .int mk, .ref rM, .int md, .ref rN, .ref rL, .ref rZ, .ref rE, .ref rI, .int hc, .ref rA, .ref rX, .int lnn, .ref rV, .ref rW, .int sl, .ref rC, .ref rF, .ref rQ, .ref rK, .ref rR, .ref rD]))] H := hP
  have hD : va_D A [(rO, .inl (E.2 2, 4, .inr (.inl (lA U)))), (rU, .inl (E.2 2, 4, .inr (.inl (lA V)))), (rT, .inl (E.2 1, 4, .inl (nA Te))), (rS, .inl (E.2 1, 8, .inl (nA Si))), (rB, .inl (E.2 1, 8, .inl (nA Ba))), (rP, .inl (E.2 1, 8, .inl (nA Sm))), (rG, .inl (E.2 1, 8, .inl (nA Gr))), (m0, .inr (9, [.int (nI sh), .ref rO, .ref rU, .ref rT, .int (nI rg), .ref rS, .ref rB, .ref rP, .ref rG, .long (lN (tA ((U (seN sh Si k)) * (2 * ((Ba (rgN sh k)) * ((Gr (rgN sh k)) - (Sm (rgN sh k)))))) ((V (seN sh Si k)) * (2 * (Gr (rgN sh k)))))), .long (lN (tB ((U (seN sh Si k)) * (2 * ((Ba (rgN sh k)) * ((Gr (rgN sh k)) - (Sm (rgN sh k)))))) ((V (seN sh Si k)) * (2 * (Gr (rgN sh k)))))), .int mk, .ref rM, .int md, .ref rN, .ref rL, .ref rZ, .ref rE, .ref rI, .int hc, .ref rA, .ref rX, .int lnn, .ref rV, .ref rW, .int sl, .ref rC, .ref rF, .ref rQ, .ref rK, .ref rR, .ref rD]))] := hD
  have e9 : ([(m0, .inr (9, [.int (nI sh), .ref rO, .ref rU, .ref rT, .int (nI rg), .ref rS, .ref rB, .ref rP, .ref rG, .long (lN (tA (U (seN sh Si k) * (2 * (Ba (rgN sh k) * (Gr (rgN sh k) - Sm (rgN sh k))))) (V (seN sh Si k) * (2 * Gr (rgN sh k))))), .long (lN (tB (U (seN sh Si k) * (2 * (Ba (rgN sh k) * (Gr (rgN sh k) - Sm (rgN sh k))))) (V (seN sh Si k) * (2 * Gr (rgN sh k))))), .int mk, .ref rM, .int md, .ref rN, .ref rL, .ref rZ, .ref rE, .ref rI, .int hc, .ref rA, .ref rX, .int lnn, .ref rV, .ref rW, .int sl, .ref rC, .ref rF, .ref rQ, .ref rK, .ref rR, .ref rD])), (rO, .inl (E.2 2, 4, .inr (.inl (lA U)))), (rU, .inl (E.2 2, 4, .inr (.inl (lA V)))), (rT, .inl (E.2 1, 4, .inl (nA Te))), (rS, .inl (E.2 1, 8, .inl (nA Si))), (rB, .inl (E.2 1, 8, .inl (nA Ba))), (rP, .inl (E.2 1, 8, .inl (nA Sm))), (rG, .inl (E.2 1, 8, .inl (nA Gr)))] : va_W) = [(m0, .inr (9, [.int (nI sh), .ref rO, .ref rU, .ref rT, .int (nI rg), .ref rS, .ref rB, .ref rP, .ref rG, .long (lN (tA ((U (seN sh Si k)) * (2 * ((Ba (rgN sh k)) * ((Gr (rgN sh k)) - (Sm (rgN sh k)))))) ((V (seN sh Si k)) * (2 * (Gr (rgN sh k)))))), .long (lN (tB ((U (seN sh Si k)) * (2 * ((Ba (rgN sh k)) * ((Gr (rgN sh k)) - (Sm (rgN sh k)))))) ((V (seN sh Si k)) * (2 * (Gr (rgN sh k)))))), .int mk, .ref rM, .int md, .ref rN, .ref rL, .ref rZ, .ref rE, .ref rI, .int hc, .ref rA, .ref rX, .int lnn, .ref rV, .ref rW, .int sl, .ref rC, .ref rF, .ref rQ, .ref rK, .ref rR, .ref rD])), (rO, .inl (E.2 2, 4, .inr (.inl (lA U)))), (rU, .inl (E.2 2, 4, .inr (.inl (lA V)))), (rT, .inl (E.2 1, 4, .inl (nA Te))), (rS, .inl (E.2 1, 8, .inl (nA Si))), (rB, .inl (E.2 1, 8, .inl (nA Ba))), (rP, .inl (E.2 1, 8, .inl (nA Sm))), (rG, .inl (E.2 1, 8, .inl (nA Gr)))] := by rfl
  have hP9 : va_P E.1 vwCl [(m0, .inr (9, [.int (nI sh), .ref rO, .ref rU, .ref rT, .int (nI rg), .ref rS, .ref rB, .ref rP, .ref rG, .long (lN (tA (U (seN sh Si k) * (2 * (Ba (rgN sh k) * (Gr (rgN sh k) - Sm (rgN sh k))))) (V (seN sh Si k) * (2 * Gr (rgN sh k))))), .long (lN (tB (U (seN sh Si k) * (2 * (Ba (rgN sh k) * (Gr (rgN sh k) - Sm (rgN sh k))))) (V (seN sh Si k) * (2 * Gr (rgN sh k))))), .int mk, .ref rM, .int md, .ref rN, .ref rL, .ref rZ, .ref rE, .ref rI, .int hc, .ref rA, .ref rX, .int lnn, .ref rV, .ref rW, .int sl, .ref rC, .ref rF, .ref rQ, .ref rK, .ref rR, .ref rD])), (rO, .inl (E.2 2, 4, .inr (.inl (lA U)))), (rU, .inl (E.2 2, 4, .inr (.inl (lA V)))), (rT, .inl (E.2 1, 4, .inl (nA Te))), (rS, .inl (E.2 1, 8, .inl (nA Si))), (rB, .inl (E.2 1, 8, .inl (nA Ba))), (rP, .inl (E.2 1, 8, .inl (nA Sm))), (rG, .inl (E.2 1, 8, .inl (nA Gr)))] H := by rw [e9]; exact hP.sub [7, 0, 1, 2, 3, 4, 5, 6] rfl
  have hD9 : va_D A [(m0, .inr (9, [.int (nI sh), .ref rO, .ref rU, .ref rT, .int (nI rg), .ref rS, .ref rB, .ref rP, .ref rG, .long (lN (tA (U (seN sh Si k) * (2 * (Ba (rgN sh k) * (Gr (rgN sh k) - Sm (rgN sh k))))) (V (seN sh Si k) * (2 * Gr (rgN sh k))))), .long (lN (tB (U (seN sh Si k) * (2 * (Ba (rgN sh k) * (Gr (rgN sh k) - Sm (rgN sh k))))) (V (seN sh Si k) * (2 * Gr (rgN sh k))))), .int mk, .ref rM, .int md, .ref rN, .ref rL, .ref rZ, .ref rE, .ref rI, .int hc, .ref rA, .ref rX, .int lnn, .ref rV, .ref rW, .int sl, .ref rC, .ref rF, .ref rQ, .ref rK, .ref rR, .ref rD])), (rO, .inl (E.2 2, 4, .inr (.inl (lA U)))), (rU, .inl (E.2 2, 4, .inr (.inl (lA V)))), (rT, .inl (E.2 1, 4, .inl (nA Te))), (rS, .inl (E.2 1, 8, .inl (nA Si))), (rB, .inl (E.2 1, 8, .inl (nA Ba))), (rP, .inl (E.2 1, 8, .inl (nA Sm))), (rG, .inl (E.2 1, 8, .inl (nA Gr)))] := by rw [e9]; exact hD.sub [7, 0, 1, 2, 3, 4, 5, 6] (by decide) rfl
  exact W.vret hx hb hr (fun t9 ht9 hW9 => ⟨⟨(), rfl, trivial, ⟨by rw [ht9]; exact hP9, hD9⟩⟩, hS.F ht9⟩) hS.2.2 dX9_findTone_227
set_option maxHeartbeats 1000000 in
set_option maxRecDepth 100000 in
theorem c_X9_findTone_3_0 (l : Launch) (E : EnvT) (sz : Nat) (m0 : Nat) (sh : Nat) (rO : Nat) (rU : Nat) (rT : Nat) (rg : Nat) (rS : Nat) (rB : Nat) (rP : Nat) (rG : Nat) (ab0 : Int64) (be0 : Int64) (mk : Int32) (rM : Nat) (md : Int32) (rN : Nat) (rL : Nat) (rZ : Nat) (rE : Nat) (rI : Nat) (hc : Int32) (rA : Nat) (rX : Nat) (lnn : Int32) (rV : Nat) (rW : Nat) (sl : Int32) (rC : Nat) (rF : Nat) (rQ : Nat) (rK : Nat) (rR : Nat) (rD : Nat) (U : Nat → Nat) (V : Nat → Nat) (Te : Nat → Nat) (Si : Nat → Nat) (Ba : Nat → Nat) (Sm : Nat → Nat) (Gr : Nat → Nat) (k : Nat) (hs1 : 1 ≤ sh) (hs4 : sh ≤ 4) (hr8 : rg ≤ 8) (hk : k < 2 * sh - 1 + 4 * rg) (hse : seN sh Si k < 4) (hU1 : 0 < U (seN sh Si k)) (hU2 : U (seN sh Si k) ≤ 8000000) (hV1 : 0 < V (seN sh Si k)) (hV2 : V (seN sh Si k) ≤ 8000000) (hkd : kdN sh k = 3) (hk2 : 2 * sh - 1 ≤ k) (hrr : rgN sh k < 8) (hb1 : 3 ≤ Ba (rgN sh k)) (hb2 : Ba (rgN sh k) ≤ 30) (hp1 : 1 ≤ Sm (rgN sh k)) (hpq : Sm (rgN sh k) < Gr (rgN sh k)) (hq2 : Gr (rgN sh k) ≤ 100) : Met l yX9_findTone wsX9_findTone ({ frames := 2, cells := 0, slots := 0, locals := 42 }) (va_Pc [.ref m0, .int (nI k), .int 0] (PW E [(m0, .inr (9, [.int (nI sh), .ref rO, .ref rU, .ref rT, .int (nI rg), .ref rS, .ref rB, .ref rP, .ref rG, .long ab0, .long be0, .int mk, .ref rM, .int md, .ref rN, .ref rL, .ref rZ, .ref rE, .ref rI, .int hc, .ref rA, .ref rX, .int lnn, .ref rV, .ref rW, .int sl, .ref rC, .ref rF, .ref rQ, .ref rK, .ref rR, .ref rD])), (rO, .inl (E.2 2, 4, .inr (.inl (lA U)))), (rU, .inl (E.2 2, 4, .inr (.inl (lA V)))), (rT, .inl (E.2 1, 4, .inl (nA Te))), (rS, .inl (E.2 1, 8, .inl (nA Si))), (rB, .inl (E.2 1, 8, .inl (nA Ba))), (rP, .inl (E.2 1, 8, .inl (nA Sm))), (rG, .inl (E.2 1, 8, .inl (nA Gr)))] sz)) (va_Qv (fun (uu : Unit) => True) (fun (uu : Unit) t => BW E (va_A [(m0, .inr (9, [.int (nI sh), .ref rO, .ref rU, .ref rT, .int (nI rg), .ref rS, .ref rB, .ref rP, .ref rG, .long ab0, .long be0, .int mk, .ref rM, .int md, .ref rN, .ref rL, .ref rZ, .ref rE, .ref rI, .int hc, .ref rA, .ref rX, .int lnn, .ref rV, .ref rW, .int sl, .ref rC, .ref rF, .ref rQ, .ref rK, .ref rR, .ref rD])), (rO, .inl (E.2 2, 4, .inr (.inl (lA U)))), (rU, .inl (E.2 2, 4, .inr (.inl (lA V)))), (rT, .inl (E.2 1, 4, .inl (nA Te))), (rS, .inl (E.2 1, 8, .inl (nA Si))), (rB, .inl (E.2 1, 8, .inl (nA Ba))), (rP, .inl (E.2 1, 8, .inl (nA Sm))), (rG, .inl (E.2 1, 8, .inl (nA Gr)))] sz) [(m0, .inr (9, [.int (nI sh), .ref rO, .ref rU, .ref rT, .int (nI rg), .ref rS, .ref rB, .ref rP, .ref rG, .long (lN (tA (U (seN sh Si k) * (Ba (rgN sh k) * (Gr (rgN sh k) + Sm (rgN sh k)))) (V (seN sh Si k) * (2 * Gr (rgN sh k))))), .long (lN (tB (U (seN sh Si k) * (Ba (rgN sh k) * (Gr (rgN sh k) + Sm (rgN sh k)))) (V (seN sh Si k) * (2 * Gr (rgN sh k))))), .int mk, .ref rM, .int md, .ref rN, .ref rL, .ref rZ, .ref rE, .ref rI, .int hc, .ref rA, .ref rX, .int lnn, .ref rV, .ref rW, .int sl, .ref rC, .ref rF, .ref rQ, .ref rK, .ref rR, .ref rD])), (rO, .inl (E.2 2, 4, .inr (.inl (lA U)))), (rU, .inl (E.2 2, 4, .inr (.inl (lA V)))), (rT, .inl (E.2 1, 4, .inl (nA Te))), (rS, .inl (E.2 1, 8, .inl (nA Si))), (rB, .inl (E.2 1, 8, .inl (nA Ba))), (rP, .inl (E.2 1, 8, .inl (nA Sm))), (rG, .inl (E.2 1, 8, .inl (nA Gr)))] t) (va_A [(m0, .inr (9, [.int (nI sh), .ref rO, .ref rU, .ref rT, .int (nI rg), .ref rS, .ref rB, .ref rP, .ref rG, .long ab0, .long be0, .int mk, .ref rM, .int md, .ref rN, .ref rL, .ref rZ, .ref rE, .ref rI, .int hc, .ref rA, .ref rX, .int lnn, .ref rV, .ref rW, .int sl, .ref rC, .ref rF, .ref rQ, .ref rK, .ref rR, .ref rD])), (rO, .inl (E.2 2, 4, .inr (.inl (lA U)))), (rU, .inl (E.2 2, 4, .inr (.inl (lA V)))), (rT, .inl (E.2 1, 4, .inl (nA Te))), (rS, .inl (E.2 1, 8, .inl (nA Si))), (rB, .inl (E.2 1, 8, .inl (nA Ba))), (rP, .inl (E.2 1, 8, .inl (nA Sm))), (rG, .inl (E.2 1, 8, .inl (nA Gr)))] sz)) 0 0 (va_A [(m0, .inr (9, [.int (nI sh), .ref rO, .ref rU, .ref rT, .int (nI rg), .ref rS, .ref rB, .ref rP, .ref rG, .long ab0, .long be0, .int mk, .ref rM, .int md, .ref rN, .ref rL, .ref rZ, .ref rE, .ref rI, .int hc, .ref rA, .ref rX, .int lnn, .ref rV, .ref rW, .int sl, .ref rC, .ref rF, .ref rQ, .ref rK, .ref rR, .ref rD])), (rO, .inl (E.2 2, 4, .inr (.inl (lA U)))), (rU, .inl (E.2 2, 4, .inr (.inl (lA V)))), (rT, .inl (E.2 1, 4, .inl (nA Te))), (rS, .inl (E.2 1, 8, .inl (nA Si))), (rB, .inl (E.2 1, 8, .inl (nA Ba))), (rP, .inl (E.2 1, 8, .inl (nA Sm))), (rG, .inl (E.2 1, 8, .inl (nA Gr)))] sz) := by
  refine Met.ofW (cc := cX9_findTone) (maxL := 14) (ret := none) (by decide +kernel) rfl ?_
  intro p e s m args below meth c s₁ B hml hv
  obtain ⟨rfl, hsz, hP, hE, hD0⟩ := hv
  have hx := B.exec
  have hb := B.bytes
  have hr := B.returns
  have hts := atoms_spec (ws := wsX9_findTone) B.pre
  have hown : s.vm.findClass RX9 = some m.cls := findClass_of_methodNamed B.named
  have hlocks := B.notSynchronized
  have hK := hE.1
  have hNN := hE.2.1
  have hinX9 : ∀ w ∈ wsX90, w ∈ wsX9_findTone := fun w h => List.mem_cons_of_mem _ (List.mem_append_right _ h)
  subst hsz
  have hD := hD0.self (sz := s.heap.size)
  generalize hAe : va_A [(m0, .inr (9, [.int (nI sh), .ref rO, .ref rU, .ref rT, .int (nI rg), .ref rS, .ref rB, .ref rP, .ref rG, .long ab0, .long be0, .int mk, .ref rM, .int md, .ref rN, .ref rL, .ref rZ, .ref rE, .ref rI, .int hc, .ref rA, .ref rX, .int lnn, .ref rV, .ref rW, .int sl, .ref rC, .ref rF, .ref rQ, .ref rK, .ref rR, .ref rD])), (rO, .inl (E.2 2, 4, .inr (.inl (lA U)))), (rU, .inl (E.2 2, 4, .inr (.inl (lA V)))), (rT, .inl (E.2 1, 4, .inl (nA Te))), (rS, .inl (E.2 1, 8, .inl (nA Si))), (rB, .inl (E.2 1, 8, .inl (nA Ba))), (rP, .inl (E.2 1, 8, .inl (nA Sm))), (rG, .inl (E.2 1, 8, .inl (nA Gr)))] s.heap.size = A at hD ⊢
  have hA : ∀ q : Nat, s.heap.size ≤ q → A q := fun q h => by rw [← hAe]; exact Or.inr h
  have hS : va_S A s.heap s.heap [] := va_S.rf
  have hl := lv_entry ([.ref m0, .int (nI k), .int 0]) (n := 14) (Nat.le_of_ble_eq_true rfl)
  rw [lg_entry_eq]
  generalize (lg_sl ([.ref m0, .int (nI k), .int 0]) ++ List.replicate (14 - (lg_sl ([.ref m0, .int (nI k), .int 0])).length) Slot.unset).toArray = ls at hl ⊢
  have hl : lv_has ls 14 [(0, .ref m0), (1, .int (nI k)), (2, .int 0)] := hl
  have g1 : 3 * (Gr (rgN sh k) + Sm (rgN sh k)) ≤ Ba (rgN sh k) * (Gr (rgN sh k) + Sm (rgN sh k)) := Nat.mul_le_mul_right _ hb1
  have g2 : Ba (rgN sh k) * (Gr (rgN sh k) + Sm (rgN sh k)) ≤ 30 * 200 := Nat.mul_le_mul hb2 (by omega)
  refine lv_aload_n hx hb dX9_findTone_0 rfl (lv_at hl 0 rfl) ?_
  refine lv_iload_n hx hb dX9_findTone_1 rfl (lv_at hl 1 rfl) ?_
  refine rVi hE ⟨hx, hb, hml, hown, hts⟩ (c_X9_kindOf l E m0 sh rO rU rT rg rS rB rP rG ab0 be0 mk rM md rN rL rZ rE rI hc rA rX lnn rV rW sl rC rF rQ rK rR rD k (hs1) (hs4) (hr8) (hk)) (cwV 1 hts gX9_findTone_X9_kindOf rfl rfl rfl (by decide +kernel) ⟨Nat.le_of_ble_eq_true rfl, Nat.le_of_ble_eq_true rfl⟩) (hP.sub [0] rfl) 0 9 rfl rfl rfl hl.1 rfl (Nat.le_of_ble_eq_true rfl) dX9_findTone_2 ⟨(Nat.zero_le _), (Nat.zero_le _)⟩ ?_
  rw [show (nI (kdN sh k) : Int32) = 3 from by rw [hkd]; rfl]
  refine lv_istore_n (lv' := [(3, .int 3), (0, .ref m0), (1, .int (nI k)), (2, .int 0)]) hx hb dX9_findTone_5 rfl hl (by decide) rfl (fun ls hl => ?_)
  refine lv_aload_n hx hb dX9_findTone_6 rfl (lv_at hl 1 rfl) ?_
  refine lv_iload_n hx hb dX9_findTone_7 rfl (lv_at hl 2 rfl) ?_
  refine rVi hE ⟨hx, hb, hml, hown, hts⟩ (c_X9_shaftOf l E m0 sh rO rU rT rg rS rB rP rG ab0 be0 mk rM md rN rL rZ rE rI hc rA rX lnn rV rW sl rC rF rQ rK rR rD Si k (hs1) (hs4) (hr8) (hk)) (cwV 1 hts gX9_findTone_X9_shaftOf rfl rfl rfl (by decide +kernel) ⟨Nat.le_of_ble_eq_true rfl, Nat.le_of_ble_eq_true rfl⟩) (hP.sub [0, 4] rfl) 0 9 rfl rfl rfl hl.1 rfl (Nat.le_of_ble_eq_true rfl) dX9_findTone_8 ⟨(Nat.zero_le _), (Nat.zero_le _)⟩ ?_
  refine lv_istore (lv' := [(4, .int (nI (seN sh Si k))), (3, .int 3), (0, .ref m0), (1, .int (nI k)), (2, .int 0)]) hx hb dX9_findTone_11 hl (by decide) rfl (fun ls hl => ?_)
  refine lv_iload_n hx hb dX9_findTone_13 rfl (lv_at hl 4 rfl) ?_
  refine lv_i2l (v := 0) hx hb dX9_findTone_14 (by decide) ?_
  refine lv_lconst (v := 1) hx hb dX9_findTone_15 (by decide) ?_
  refine lv_ladd hx hb dX9_findTone_16 ?_
  rw [show ((0 : Int64) + (1 : Int64) : Int64) = lN (1) from lN_add 0 1]
  refine lv_lstore (lv' := [(5, .long (lN (1))), (4, .int (nI (seN sh Si k))), (3, .int 3), (0, .ref m0), (1, .int (nI k)), (2, .int 0)]) hx hb dX9_findTone_17 hl (by decide) rfl (fun ls hl => ?_)
  refine lv_lconst (v := 1) hx hb dX9_findTone_19 (by decide) ?_
  refine lv_lstore (lv' := [(7, .long 1), (5, .long (lN (1))), (4, .int (nI (seN sh Si k))), (3, .int 3), (0, .ref m0), (1, .int (nI k)), (2, .int 0)]) hx hb dX9_findTone_20 hl (by decide) rfl (fun ls hl => ?_)
  refine lv_iload_n hx hb dX9_findTone_22 rfl (lv_at hl 3 rfl) ?_
  refine lv_iconst (v := 1) hx hb dX9_findTone_23 (by decide) ?_
  refine lv_icmp_ne (tgt := 45) hx hb dX9_findTone_24 (by decide) (fun c_24 => ?_) (fun c_24 => by exfalso; revert c_24; decide)
  refine lv_iload_n hx hb dX9_findTone_45 rfl (lv_at hl 3 rfl) ?_
  refine lv_iconst (v := 1) hx hb dX9_findTone_46 (by decide) ?_
  refine lv_icmp_le (tgt := 203) hx hb dX9_findTone_47 (by decide) (fun c_47 => by exfalso; revert c_47; decide) (fun c_47 => ?_)
  refine lv_aload_n hx hb dX9_findTone_50 rfl (lv_at hl 4 rfl) ?_
  refine lv_iload_n hx hb dX9_findTone_51 rfl (lv_at hl 5 rfl) ?_
  refine rVi hE ⟨hx, hb, hml, hown, hts⟩ (c_X9_ringOf l E m0 sh rO rU rT rg rS rB rP rG ab0 be0 mk rM md rN rL rZ rE rI hc rA rX lnn rV rW sl rC rF rQ rK rR rD k (hs1) (hs4) (hr8) (hk) (hk2)) (cwV 1 hts gX9_findTone_X9_ringOf rfl rfl rfl (by decide +kernel) ⟨Nat.le_of_ble_eq_true rfl, Nat.le_of_ble_eq_true rfl⟩) (hP.sub [0] rfl) 0 9 rfl rfl rfl hl.1 rfl (Nat.le_of_ble_eq_true rfl) dX9_findTone_52 ⟨(Nat.zero_le _), (Nat.zero_le _)⟩ ?_
  refine lv_istore (lv' := [(9, .int (nI (rgN sh k))), (7, .long 1), (5, .long (lN (1))), (4, .int (nI (seN sh Si k))), (3, .int 3), (0, .ref m0), (1, .int (nI k)), (2, .int 0)]) hx hb dX9_findTone_55 hl (by decide) rfl (fun ls hl => ?_)
  refine lv_aload_n hx hb dX9_findTone_57 rfl (lv_at hl 5 rfl) ?_
  refine va_get (D := E.1) (ci := 9) (v := .ref rP) (C := RX9) (T := TX9) (N := 32) hx hb hts hinX9 hown hK hP 0 rfl rfl 7 (by decide) (hts (.fieldLink RX9 30 "WornRingsModel" "small" "[I") (by decide +kernel)) (fun _ h9 => h9) rfl dX9_findTone_58 ?_
  refine lv_iload hx hb dX9_findTone_61 (lv_at hl 0 rfl) ?_
  refine va_iald hx hb hK hP 6 1 rfl rfl (vp_in_nI (by omega) (by omega)) dX9_findTone_63 ?_
  rw [nI_clamp (n := rgN sh k) (by omega)]
  refine W.eq (g2 := F0 m 64 ls [.int (nI (Sm (rgN sh k)))]) rfl ?_
  refine lv_i2l (v := lN (Sm (rgN sh k))) hx hb dX9_findTone_64 (nI_l (by omega)) ?_
  refine lv_lstore (lv' := [(10, .long (lN (Sm (rgN sh k)))), (9, .int (nI (rgN sh k))), (7, .long 1), (5, .long (lN (1))), (4, .int (nI (seN sh Si k))), (3, .int 3), (0, .ref m0), (1, .int (nI k)), (2, .int 0)]) hx hb dX9_findTone_65 hl (by decide) rfl (fun ls hl => ?_)
  refine lv_aload_n hx hb dX9_findTone_67 rfl (lv_at hl 6 rfl) ?_
  refine va_get (D := E.1) (ci := 9) (v := .ref rG) (C := RX9) (T := TX9) (N := 32) hx hb hts hinX9 hown hK hP 0 rfl rfl 8 (by decide) (hts (.fieldLink RX9 33 "WornRingsModel" "great" "[I") (by decide +kernel)) (fun _ h9 => h9) rfl dX9_findTone_68 ?_
  refine lv_iload hx hb dX9_findTone_71 (lv_at hl 1 rfl) ?_
  refine va_iald hx hb hK hP 7 1 rfl rfl (vp_in_nI (by omega) (by omega)) dX9_findTone_73 ?_
  rw [nI_clamp (n := rgN sh k) (by omega)]
  refine W.eq (g2 := F0 m 74 ls [.int (nI (Gr (rgN sh k)))]) rfl ?_
  refine lv_i2l (v := lN (Gr (rgN sh k))) hx hb dX9_findTone_74 (nI_l (by omega)) ?_
  refine lv_lstore (lv' := [(12, .long (lN (Gr (rgN sh k)))), (10, .long (lN (Sm (rgN sh k)))), (9, .int (nI (rgN sh k))), (7, .long 1), (5, .long (lN (1))), (4, .int (nI (seN sh Si k))), (3, .int 3), (0, .ref m0), (1, .int (nI k)), (2, .int 0)]) hx hb dX9_findTone_75 hl (by decide) rfl (fun ls hl => ?_)
  refine lv_iload_n hx hb dX9_findTone_77 rfl (lv_at hl 6 rfl) ?_
  refine lv_iconst (v := 5) hx hb dX9_findTone_78 (by decide) ?_
  refine lv_icmp_ne (tgt := 94) hx hb dX9_findTone_79 (by decide) (fun c_79 => ?_) (fun c_79 => by exfalso; revert c_79; decide)
  refine lv_ldc2 (v := 2) hx hb hown (hts (.constantLong RX9 140 (2)) (by decide +kernel)) dX9_findTone_94 ?_
  refine lv_lload hx hb dX9_findTone_97 (lv_at hl 0 rfl) ?_
  refine lv_lmul hx hb dX9_findTone_99 ?_
  rw [show ((2 : Int64) * (lN (Gr (rgN sh k))) : Int64) = lN (2 * (Gr (rgN sh k))) from lN_mul 2 (Gr (rgN sh k))]
  refine lv_lstore (lv' := [(7, .long (lN (2 * (Gr (rgN sh k))))), (12, .long (lN (Gr (rgN sh k)))), (10, .long (lN (Sm (rgN sh k)))), (9, .int (nI (rgN sh k))), (5, .long (lN (1))), (4, .int (nI (seN sh Si k))), (3, .int 3), (0, .ref m0), (1, .int (nI k)), (2, .int 0)]) hx hb dX9_findTone_100 hl (by decide) rfl (fun ls hl => ?_)
  refine lv_iload_n hx hb dX9_findTone_102 rfl (lv_at hl 6 rfl) ?_
  refine lv_iconst (v := 2) hx hb dX9_findTone_103 (by decide) ?_
  refine lv_icmp_ne (tgt := 124) hx hb dX9_findTone_104 (by decide) (fun c_104 => ?_) (fun c_104 => by exfalso; revert c_104; decide)
  refine lv_iload_n hx hb dX9_findTone_124 rfl (lv_at hl 6 rfl) ?_
  refine lv_iconst (v := 3) hx hb dX9_findTone_125 (by decide) ?_
  refine lv_icmp_ne (tgt := 146) hx hb dX9_findTone_126 (by decide) (fun c_126 => by exfalso; revert c_126; decide) (fun c_126 => ?_)
  refine lv_aload_n hx hb dX9_findTone_129 rfl (lv_at hl 7 rfl) ?_
  refine va_get (D := E.1) (ci := 9) (v := .ref rB) (C := RX9) (T := TX9) (N := 32) hx hb hts hinX9 hown hK hP 0 rfl rfl 6 (by decide) (hts (.fieldLink RX9 27 "WornRingsModel" "balls" "[I") (by decide +kernel)) (fun _ h9 => h9) rfl dX9_findTone_130 ?_
  refine lv_iload hx hb dX9_findTone_133 (lv_at hl 3 rfl) ?_
  refine va_iald hx hb hK hP 5 1 rfl rfl (vp_in_nI (by omega) (by omega)) dX9_findTone_135 ?_
  rw [nI_clamp (n := rgN sh k) (by omega)]
  refine W.eq (g2 := F0 m 136 ls [.int (nI (Ba (rgN sh k)))]) rfl ?_
  refine lv_i2l (v := lN (Ba (rgN sh k))) hx hb dX9_findTone_136 (nI_l (by omega)) ?_
  refine lv_lload hx hb dX9_findTone_137 (lv_at hl 1 rfl) ?_
  refine lv_lload hx hb dX9_findTone_139 (lv_at hl 2 rfl) ?_
  refine lv_ladd hx hb dX9_findTone_141 ?_
  rw [show ((lN (Gr (rgN sh k))) + (lN (Sm (rgN sh k))) : Int64) = lN ((Gr (rgN sh k)) + (Sm (rgN sh k))) from lN_add (Gr (rgN sh k)) (Sm (rgN sh k))]
  refine lv_lmul hx hb dX9_findTone_142 ?_
  rw [show ((lN (Ba (rgN sh k))) * (lN ((Gr (rgN sh k)) + (Sm (rgN sh k)))) : Int64) = lN ((Ba (rgN sh k)) * ((Gr (rgN sh k)) + (Sm (rgN sh k)))) from lN_mul (Ba (rgN sh k)) ((Gr (rgN sh k)) + (Sm (rgN sh k)))]
  refine lv_goto (tgt := 170) hx hb dX9_findTone_143 (by decide) ?_
  refine lv_lstore (lv' := [(5, .long (lN ((Ba (rgN sh k)) * ((Gr (rgN sh k)) + (Sm (rgN sh k)))))), (7, .long (lN (2 * (Gr (rgN sh k))))), (12, .long (lN (Gr (rgN sh k)))), (10, .long (lN (Sm (rgN sh k)))), (9, .int (nI (rgN sh k))), (4, .int (nI (seN sh Si k))), (3, .int 3), (0, .ref m0), (1, .int (nI k)), (2, .int 0)]) hx hb dX9_findTone_170 hl (by decide) rfl (fun ls hl => ?_)
  refine lv_iload_n hx hb dX9_findTone_172 rfl (lv_at hl 9 rfl) ?_
  refine lv_iconst (v := 1) hx hb dX9_findTone_173 (by decide) ?_
  refine lv_icmp_ne (tgt := 186) hx hb dX9_findTone_174 (by decide) (fun c_174 => ?_) (fun c_174 => by exfalso; revert c_174; decide)
  refine lv_iload_n hx hb dX9_findTone_186 rfl (lv_at hl 9 rfl) ?_
  refine lv_iconst (v := 2) hx hb dX9_findTone_187 (by decide) ?_
  refine lv_icmp_ne (tgt := 199) hx hb dX9_findTone_188 (by decide) (fun c_188 => ?_) (fun c_188 => by exfalso; revert c_188; decide)
  refine lv_lload hx hb dX9_findTone_199 (lv_at hl 0 rfl) ?_
  refine lv_lstore (lv' := [(5, .long (lN ((Ba (rgN sh k)) * ((Gr (rgN sh k)) + (Sm (rgN sh k)))))), (7, .long (lN (2 * (Gr (rgN sh k))))), (12, .long (lN (Gr (rgN sh k)))), (10, .long (lN (Sm (rgN sh k)))), (9, .int (nI (rgN sh k))), (4, .int (nI (seN sh Si k))), (3, .int 3), (0, .ref m0), (1, .int (nI k)), (2, .int 0)]) hx hb dX9_findTone_201 hl (by decide) rfl (fun ls hl => ?_)
  refine lv_aload_n hx hb dX9_findTone_203 rfl (lv_at hl 7 rfl) ?_
  refine lv_aload_n hx hb dX9_findTone_204 rfl (lv_at hl 7 rfl) ?_
  refine va_get (D := E.1) (ci := 9) (v := .ref rO) (C := RX9) (T := TX9) (N := 32) hx hb hts hinX9 hown hK hP 0 rfl rfl 1 (by decide) (hts (.fieldLink RX9 13 "WornRingsModel" "over" "[J") (by decide +kernel)) (fun _ h9 => h9) rfl dX9_findTone_205 ?_
  refine lv_iload hx hb dX9_findTone_208 (lv_at hl 5 rfl) ?_
  refine va_lald hx hb hK hP 1 2 rfl rfl (vp_in_nI (by omega) (by omega)) dX9_findTone_210 ?_
  rw [nI_clamp (n := seN sh Si k) (by omega)]
  refine W.eq (g2 := F0 m 211 ls [.long (lN (U (seN sh Si k))), .ref m0]) rfl ?_
  refine lv_lload hx hb dX9_findTone_211 (lv_at hl 0 rfl) ?_
  refine lv_lmul hx hb dX9_findTone_213 ?_
  rw [show ((lN (U (seN sh Si k))) * (lN ((Ba (rgN sh k)) * ((Gr (rgN sh k)) + (Sm (rgN sh k))))) : Int64) = lN ((U (seN sh Si k)) * ((Ba (rgN sh k)) * ((Gr (rgN sh k)) + (Sm (rgN sh k))))) from lN_mul (U (seN sh Si k)) ((Ba (rgN sh k)) * ((Gr (rgN sh k)) + (Sm (rgN sh k))))]
  refine lv_aload_n hx hb dX9_findTone_214 rfl (lv_at hl 7 rfl) ?_
  refine va_get (D := E.1) (ci := 9) (v := .ref rU) (C := RX9) (T := TX9) (N := 32) hx hb hts hinX9 hown hK hP 0 rfl rfl 2 (by decide) (hts (.fieldLink RX9 17 "WornRingsModel" "under" "[J") (by decide +kernel)) (fun _ h9 => h9) rfl dX9_findTone_215 ?_
  refine lv_iload hx hb dX9_findTone_218 (lv_at hl 5 rfl) ?_
  refine va_lald hx hb hK hP 2 2 rfl rfl (vp_in_nI (by omega) (by omega)) dX9_findTone_220 ?_
  rw [nI_clamp (n := seN sh Si k) (by omega)]
  refine W.eq (g2 := F0 m 221 ls [.long (lN (V (seN sh Si k))), .long (lN ((U (seN sh Si k)) * ((Ba (rgN sh k)) * ((Gr (rgN sh k)) + (Sm (rgN sh k)))))), .ref m0]) rfl ?_
  refine lv_lload hx hb dX9_findTone_221 (lv_at hl 1 rfl) ?_
  refine lv_lmul hx hb dX9_findTone_223 ?_
  rw [show ((lN (V (seN sh Si k))) * (lN (2 * (Gr (rgN sh k)))) : Int64) = lN ((V (seN sh Si k)) * (2 * (Gr (rgN sh k)))) from lN_mul (V (seN sh Si k)) (2 * (Gr (rgN sh k)))]
  refine wVv (wr := [(rO, .inl (E.2 2, 4, .inr (.inl (lA U)))), (rU, .inl (E.2 2, 4, .inr (.inl (lA V)))), (rT, .inl (E.2 1, 4, .inl (nA Te))), (rS, .inl (E.2 1, 8, .inl (nA Si))), (rB, .inl (E.2 1, 8, .inl (nA Ba))), (rP, .inl (E.2 1, 8, .inl (nA Sm))), (rG, .inl (E.2 1, 8, .inl (nA Gr)))]) hE ⟨hx, hb, hml, hown, hts⟩ (c_X9_reduce l E s.heap.size m0 (nI sh) rO rU rT (nI rg) rS rB rP rG ab0 be0 mk rM md rN rL rZ rE rI hc rA rX lnn rV rW sl rC rF rQ rK rR rD ((U (seN sh Si k)) * ((Ba (rgN sh k)) * ((Gr (rgN sh k)) + (Sm (rgN sh k))))) ((V (seN sh Si k)) * (2 * (Gr (rgN sh k)))) (Nat.mul_pos hU1 (by omega)) (Nat.lt_of_le_of_lt (Nat.mul_le_mul hU2 (show _ ≤ 20000 by omega)) (by decide)) (Nat.mul_pos hV1 (by omega)) (Nat.lt_of_le_of_lt (Nat.mul_le_mul hV2 (show _ ≤ 20000 by omega)) (by decide))) (cwV 2 hts gX9_findTone_X9_reduce rfl rfl rfl (by decide +kernel) ⟨Nat.le_of_ble_eq_true rfl, Nat.le_of_ble_eq_true rfl⟩) hP hD hS hA [0] [1, 2, 3, 4, 5, 6, 7] rfl rfl (by decide) (by decide) (by decide) 0 9 rfl rfl rfl hl.1 rfl (Nat.le_of_ble_eq_true rfl) dX9_findTone_224 ⟨(Nat.zero_le _), (Nat.zero_le _)⟩ (fun u H locs hw hP hD hS => ?_)
  have hP : va_P E.1 vwCl [(rO, .inl (E.2 2, 4, .inr (.inl (lA U)))), (rU, .inl (E.2 2, 4, .inr (.inl (lA V)))), (rT, .inl (E.2 1, 4, .inl (nA Te))), (rS, .inl (E.2 1, 8, .inl (nA Si))), (rB, .inl (E.2 1, 8, .inl (nA Ba))), (rP, .inl (E.2 1, 8, .inl (nA Sm))), (rG, .inl (E.2 1, 8, .inl (nA Gr))), (m0, .inr (9, [.int (nI sh), .ref rO, .ref rU, .ref rT, .int (nI rg), .ref rS, .ref rB, .ref rP, .ref rG, .long (lN (tA ((U (seN sh Si k)) * ((Ba (rgN sh k)) * ((Gr (rgN sh k)) + (Sm (rgN sh k))))) ((V (seN sh Si k)) * (2 * (Gr (rgN sh k)))))), .long (lN (tB ((U (seN sh Si k)) * ((Ba (rgN sh k)) * ((Gr (rgN sh k)) + (Sm (rgN sh k))))) ((V (seN sh Si k)) * (2 * (Gr (rgN sh k)))))), .int mk, .ref rM, .int md, .ref rN, .ref rL, .ref rZ, .ref rE, .ref rI, .int hc, .ref rA, .ref rX, .int lnn, .ref rV, .ref rW, .int sl, .ref rC, .ref rF, .ref rQ, .ref rK, .ref rR, .ref rD]))] H := hP
  have hD : va_D A [(rO, .inl (E.2 2, 4, .inr (.inl (lA U)))), (rU, .inl (E.2 2, 4, .inr (.inl (lA V)))), (rT, .inl (E.2 1, 4, .inl (nA Te))), (rS, .inl (E.2 1, 8, .inl (nA Si))), (rB, .inl (E.2 1, 8, .inl (nA Ba))), (rP, .inl (E.2 1, 8, .inl (nA Sm))), (rG, .inl (E.2 1, 8, .inl (nA Gr))), (m0, .inr (9, [.int (nI sh), .ref rO, .ref rU, .ref rT, .int (nI rg), .ref rS, .ref rB, .ref rP, .ref rG, .long (lN (tA ((U (seN sh Si k)) * ((Ba (rgN sh k)) * ((Gr (rgN sh k)) + (Sm (rgN sh k))))) ((V (seN sh Si k)) * (2 * (Gr (rgN sh k)))))), .long (lN (tB ((U (seN sh Si k)) * ((Ba (rgN sh k)) * ((Gr (rgN sh k)) + (Sm (rgN sh k))))) ((V (seN sh Si k)) * (2 * (Gr (rgN sh k)))))), .int mk, .ref rM, .int md, .ref rN, .ref rL, .ref rZ, .ref rE, .ref rI, .int hc, .ref rA, .ref rX, .int lnn, .ref rV, .ref rW, .int sl, .ref rC, .ref rF, .ref rQ, .ref rK, .ref rR, .ref rD]))] := hD
  have e9 : ([(m0, .inr (9, [.int (nI sh), .ref rO, .ref rU, .ref rT, .int (nI rg), .ref rS, .ref rB, .ref rP, .ref rG, .long (lN (tA (U (seN sh Si k) * (Ba (rgN sh k) * (Gr (rgN sh k) + Sm (rgN sh k)))) (V (seN sh Si k) * (2 * Gr (rgN sh k))))), .long (lN (tB (U (seN sh Si k) * (Ba (rgN sh k) * (Gr (rgN sh k) + Sm (rgN sh k)))) (V (seN sh Si k) * (2 * Gr (rgN sh k))))), .int mk, .ref rM, .int md, .ref rN, .ref rL, .ref rZ, .ref rE, .ref rI, .int hc, .ref rA, .ref rX, .int lnn, .ref rV, .ref rW, .int sl, .ref rC, .ref rF, .ref rQ, .ref rK, .ref rR, .ref rD])), (rO, .inl (E.2 2, 4, .inr (.inl (lA U)))), (rU, .inl (E.2 2, 4, .inr (.inl (lA V)))), (rT, .inl (E.2 1, 4, .inl (nA Te))), (rS, .inl (E.2 1, 8, .inl (nA Si))), (rB, .inl (E.2 1, 8, .inl (nA Ba))), (rP, .inl (E.2 1, 8, .inl (nA Sm))), (rG, .inl (E.2 1, 8, .inl (nA Gr)))] : va_W) = [(m0, .inr (9, [.int (nI sh), .ref rO, .ref rU, .ref rT, .int (nI rg), .ref rS, .ref rB, .ref rP, .ref rG, .long (lN (tA ((U (seN sh Si k)) * ((Ba (rgN sh k)) * ((Gr (rgN sh k)) + (Sm (rgN sh k))))) ((V (seN sh Si k)) * (2 * (Gr (rgN sh k)))))), .long (lN (tB ((U (seN sh Si k)) * ((Ba (rgN sh k)) * ((Gr (rgN sh k)) + (Sm (rgN sh k))))) ((V (seN sh Si k)) * (2 * (Gr (rgN sh k)))))), .int mk, .ref rM, .int md, .ref rN, .ref rL, .ref rZ, .ref rE, .ref rI, .int hc, .ref rA, .ref rX, .int lnn, .ref rV, .ref rW, .int sl, .ref rC, .ref rF, .ref rQ, .ref rK, .ref rR, .ref rD])), (rO, .inl (E.2 2, 4, .inr (.inl (lA U)))), (rU, .inl (E.2 2, 4, .inr (.inl (lA V)))), (rT, .inl (E.2 1, 4, .inl (nA Te))), (rS, .inl (E.2 1, 8, .inl (nA Si))), (rB, .inl (E.2 1, 8, .inl (nA Ba))), (rP, .inl (E.2 1, 8, .inl (nA Sm))), (rG, .inl (E.2 1, 8, .inl (nA Gr)))] := by rfl
  have hP9 : va_P E.1 vwCl [(m0, .inr (9, [.int (nI sh), .ref rO, .ref rU, .ref rT, .int (nI rg), .ref rS, .ref rB, .ref rP, .ref rG, .long (lN (tA (U (seN sh Si k) * (Ba (rgN sh k) * (Gr (rgN sh k) + Sm (rgN sh k)))) (V (seN sh Si k) * (2 * Gr (rgN sh k))))), .long (lN (tB (U (seN sh Si k) * (Ba (rgN sh k) * (Gr (rgN sh k) + Sm (rgN sh k)))) (V (seN sh Si k) * (2 * Gr (rgN sh k))))), .int mk, .ref rM, .int md, .ref rN, .ref rL, .ref rZ, .ref rE, .ref rI, .int hc, .ref rA, .ref rX, .int lnn, .ref rV, .ref rW, .int sl, .ref rC, .ref rF, .ref rQ, .ref rK, .ref rR, .ref rD])), (rO, .inl (E.2 2, 4, .inr (.inl (lA U)))), (rU, .inl (E.2 2, 4, .inr (.inl (lA V)))), (rT, .inl (E.2 1, 4, .inl (nA Te))), (rS, .inl (E.2 1, 8, .inl (nA Si))), (rB, .inl (E.2 1, 8, .inl (nA Ba))), (rP, .inl (E.2 1, 8, .inl (nA Sm))), (rG, .inl (E.2 1, 8, .inl (nA Gr)))] H := by rw [e9]; exact hP.sub [7, 0, 1, 2, 3, 4, 5, 6] rfl
  have hD9 : va_D A [(m0, .inr (9, [.int (nI sh), .ref rO, .ref rU, .ref rT, .int (nI rg), .ref rS, .ref rB, .ref rP, .ref rG, .long (lN (tA (U (seN sh Si k) * (Ba (rgN sh k) * (Gr (rgN sh k) + Sm (rgN sh k)))) (V (seN sh Si k) * (2 * Gr (rgN sh k))))), .long (lN (tB (U (seN sh Si k) * (Ba (rgN sh k) * (Gr (rgN sh k) + Sm (rgN sh k)))) (V (seN sh Si k) * (2 * Gr (rgN sh k))))), .int mk, .ref rM, .int md, .ref rN, .ref rL, .ref rZ, .ref rE, .ref rI, .int hc, .ref rA, .ref rX, .int lnn, .ref rV, .ref rW, .int sl, .ref rC, .ref rF, .ref rQ, .ref rK, .ref rR, .ref rD])), (rO, .inl (E.2 2, 4, .inr (.inl (lA U)))), (rU, .inl (E.2 2, 4, .inr (.inl (lA V)))), (rT, .inl (E.2 1, 4, .inl (nA Te))), (rS, .inl (E.2 1, 8, .inl (nA Si))), (rB, .inl (E.2 1, 8, .inl (nA Ba))), (rP, .inl (E.2 1, 8, .inl (nA Sm))), (rG, .inl (E.2 1, 8, .inl (nA Gr)))] := by rw [e9]; exact hD.sub [7, 0, 1, 2, 3, 4, 5, 6] (by decide) rfl
  exact W.vret hx hb hr (fun t9 ht9 hW9 => ⟨⟨(), rfl, trivial, ⟨by rw [ht9]; exact hP9, hD9⟩⟩, hS.F ht9⟩) hS.2.2 dX9_findTone_227
set_option maxHeartbeats 1000000 in
set_option maxRecDepth 100000 in
theorem c_X9_findTone_3_1 (l : Launch) (E : EnvT) (sz : Nat) (m0 : Nat) (sh : Nat) (rO : Nat) (rU : Nat) (rT : Nat) (rg : Nat) (rS : Nat) (rB : Nat) (rP : Nat) (rG : Nat) (ab0 : Int64) (be0 : Int64) (mk : Int32) (rM : Nat) (md : Int32) (rN : Nat) (rL : Nat) (rZ : Nat) (rE : Nat) (rI : Nat) (hc : Int32) (rA : Nat) (rX : Nat) (lnn : Int32) (rV : Nat) (rW : Nat) (sl : Int32) (rC : Nat) (rF : Nat) (rQ : Nat) (rK : Nat) (rR : Nat) (rD : Nat) (U : Nat → Nat) (V : Nat → Nat) (Te : Nat → Nat) (Si : Nat → Nat) (Ba : Nat → Nat) (Sm : Nat → Nat) (Gr : Nat → Nat) (k : Nat) (hs1 : 1 ≤ sh) (hs4 : sh ≤ 4) (hr8 : rg ≤ 8) (hk : k < 2 * sh - 1 + 4 * rg) (hse : seN sh Si k < 4) (hU1 : 0 < U (seN sh Si k)) (hU2 : U (seN sh Si k) ≤ 8000000) (hV1 : 0 < V (seN sh Si k)) (hV2 : V (seN sh Si k) ≤ 8000000) (hkd : kdN sh k = 3) (hk2 : 2 * sh - 1 ≤ k) (hrr : rgN sh k < 8) (hb1 : 3 ≤ Ba (rgN sh k)) (hb2 : Ba (rgN sh k) ≤ 30) (hp1 : 1 ≤ Sm (rgN sh k)) (hpq : Sm (rgN sh k) < Gr (rgN sh k)) (hq2 : Gr (rgN sh k) ≤ 100) : Met l yX9_findTone wsX9_findTone ({ frames := 2, cells := 0, slots := 0, locals := 42 }) (va_Pc [.ref m0, .int (nI k), .int 1] (PW E [(m0, .inr (9, [.int (nI sh), .ref rO, .ref rU, .ref rT, .int (nI rg), .ref rS, .ref rB, .ref rP, .ref rG, .long ab0, .long be0, .int mk, .ref rM, .int md, .ref rN, .ref rL, .ref rZ, .ref rE, .ref rI, .int hc, .ref rA, .ref rX, .int lnn, .ref rV, .ref rW, .int sl, .ref rC, .ref rF, .ref rQ, .ref rK, .ref rR, .ref rD])), (rO, .inl (E.2 2, 4, .inr (.inl (lA U)))), (rU, .inl (E.2 2, 4, .inr (.inl (lA V)))), (rT, .inl (E.2 1, 4, .inl (nA Te))), (rS, .inl (E.2 1, 8, .inl (nA Si))), (rB, .inl (E.2 1, 8, .inl (nA Ba))), (rP, .inl (E.2 1, 8, .inl (nA Sm))), (rG, .inl (E.2 1, 8, .inl (nA Gr)))] sz)) (va_Qv (fun (uu : Unit) => True) (fun (uu : Unit) t => BW E (va_A [(m0, .inr (9, [.int (nI sh), .ref rO, .ref rU, .ref rT, .int (nI rg), .ref rS, .ref rB, .ref rP, .ref rG, .long ab0, .long be0, .int mk, .ref rM, .int md, .ref rN, .ref rL, .ref rZ, .ref rE, .ref rI, .int hc, .ref rA, .ref rX, .int lnn, .ref rV, .ref rW, .int sl, .ref rC, .ref rF, .ref rQ, .ref rK, .ref rR, .ref rD])), (rO, .inl (E.2 2, 4, .inr (.inl (lA U)))), (rU, .inl (E.2 2, 4, .inr (.inl (lA V)))), (rT, .inl (E.2 1, 4, .inl (nA Te))), (rS, .inl (E.2 1, 8, .inl (nA Si))), (rB, .inl (E.2 1, 8, .inl (nA Ba))), (rP, .inl (E.2 1, 8, .inl (nA Sm))), (rG, .inl (E.2 1, 8, .inl (nA Gr)))] sz) [(m0, .inr (9, [.int (nI sh), .ref rO, .ref rU, .ref rT, .int (nI rg), .ref rS, .ref rB, .ref rP, .ref rG, .long (lN (tA (U (seN sh Si k) * (2 * (Ba (rgN sh k) * (Gr (rgN sh k) + Sm (rgN sh k))))) (V (seN sh Si k) * (2 * Gr (rgN sh k))))), .long (lN (tB (U (seN sh Si k) * (2 * (Ba (rgN sh k) * (Gr (rgN sh k) + Sm (rgN sh k))))) (V (seN sh Si k) * (2 * Gr (rgN sh k))))), .int mk, .ref rM, .int md, .ref rN, .ref rL, .ref rZ, .ref rE, .ref rI, .int hc, .ref rA, .ref rX, .int lnn, .ref rV, .ref rW, .int sl, .ref rC, .ref rF, .ref rQ, .ref rK, .ref rR, .ref rD])), (rO, .inl (E.2 2, 4, .inr (.inl (lA U)))), (rU, .inl (E.2 2, 4, .inr (.inl (lA V)))), (rT, .inl (E.2 1, 4, .inl (nA Te))), (rS, .inl (E.2 1, 8, .inl (nA Si))), (rB, .inl (E.2 1, 8, .inl (nA Ba))), (rP, .inl (E.2 1, 8, .inl (nA Sm))), (rG, .inl (E.2 1, 8, .inl (nA Gr)))] t) (va_A [(m0, .inr (9, [.int (nI sh), .ref rO, .ref rU, .ref rT, .int (nI rg), .ref rS, .ref rB, .ref rP, .ref rG, .long ab0, .long be0, .int mk, .ref rM, .int md, .ref rN, .ref rL, .ref rZ, .ref rE, .ref rI, .int hc, .ref rA, .ref rX, .int lnn, .ref rV, .ref rW, .int sl, .ref rC, .ref rF, .ref rQ, .ref rK, .ref rR, .ref rD])), (rO, .inl (E.2 2, 4, .inr (.inl (lA U)))), (rU, .inl (E.2 2, 4, .inr (.inl (lA V)))), (rT, .inl (E.2 1, 4, .inl (nA Te))), (rS, .inl (E.2 1, 8, .inl (nA Si))), (rB, .inl (E.2 1, 8, .inl (nA Ba))), (rP, .inl (E.2 1, 8, .inl (nA Sm))), (rG, .inl (E.2 1, 8, .inl (nA Gr)))] sz)) 0 0 (va_A [(m0, .inr (9, [.int (nI sh), .ref rO, .ref rU, .ref rT, .int (nI rg), .ref rS, .ref rB, .ref rP, .ref rG, .long ab0, .long be0, .int mk, .ref rM, .int md, .ref rN, .ref rL, .ref rZ, .ref rE, .ref rI, .int hc, .ref rA, .ref rX, .int lnn, .ref rV, .ref rW, .int sl, .ref rC, .ref rF, .ref rQ, .ref rK, .ref rR, .ref rD])), (rO, .inl (E.2 2, 4, .inr (.inl (lA U)))), (rU, .inl (E.2 2, 4, .inr (.inl (lA V)))), (rT, .inl (E.2 1, 4, .inl (nA Te))), (rS, .inl (E.2 1, 8, .inl (nA Si))), (rB, .inl (E.2 1, 8, .inl (nA Ba))), (rP, .inl (E.2 1, 8, .inl (nA Sm))), (rG, .inl (E.2 1, 8, .inl (nA Gr)))] sz) := by
  refine Met.ofW (cc := cX9_findTone) (maxL := 14) (ret := none) (by decide +kernel) rfl ?_
  intro p e s m args below meth c s₁ B hml hv
  obtain ⟨rfl, hsz, hP, hE, hD0⟩ := hv
  have hx := B.exec
  have hb := B.bytes
  have hr := B.returns
  have hts := atoms_spec (ws := wsX9_findTone) B.pre
  have hown : s.vm.findClass RX9 = some m.cls := findClass_of_methodNamed B.named
  have hlocks := B.notSynchronized
  have hK := hE.1
  have hNN := hE.2.1
  have hinX9 : ∀ w ∈ wsX90, w ∈ wsX9_findTone := fun w h => List.mem_cons_of_mem _ (List.mem_append_right _ h)
  subst hsz
  have hD := hD0.self (sz := s.heap.size)
  generalize hAe : va_A [(m0, .inr (9, [.int (nI sh), .ref rO, .ref rU, .ref rT, .int (nI rg), .ref rS, .ref rB, .ref rP, .ref rG, .long ab0, .long be0, .int mk, .ref rM, .int md, .ref rN, .ref rL, .ref rZ, .ref rE, .ref rI, .int hc, .ref rA, .ref rX, .int lnn, .ref rV, .ref rW, .int sl, .ref rC, .ref rF, .ref rQ, .ref rK, .ref rR, .ref rD])), (rO, .inl (E.2 2, 4, .inr (.inl (lA U)))), (rU, .inl (E.2 2, 4, .inr (.inl (lA V)))), (rT, .inl (E.2 1, 4, .inl (nA Te))), (rS, .inl (E.2 1, 8, .inl (nA Si))), (rB, .inl (E.2 1, 8, .inl (nA Ba))), (rP, .inl (E.2 1, 8, .inl (nA Sm))), (rG, .inl (E.2 1, 8, .inl (nA Gr)))] s.heap.size = A at hD ⊢
  have hA : ∀ q : Nat, s.heap.size ≤ q → A q := fun q h => by rw [← hAe]; exact Or.inr h
  have hS : va_S A s.heap s.heap [] := va_S.rf
  have hl := lv_entry ([.ref m0, .int (nI k), .int 1]) (n := 14) (Nat.le_of_ble_eq_true rfl)
  rw [lg_entry_eq]
  generalize (lg_sl ([.ref m0, .int (nI k), .int 1]) ++ List.replicate (14 - (lg_sl ([.ref m0, .int (nI k), .int 1])).length) Slot.unset).toArray = ls at hl ⊢
  have hl : lv_has ls 14 [(0, .ref m0), (1, .int (nI k)), (2, .int 1)] := hl
  have g1 : 3 * (Gr (rgN sh k) + Sm (rgN sh k)) ≤ Ba (rgN sh k) * (Gr (rgN sh k) + Sm (rgN sh k)) := Nat.mul_le_mul_right _ hb1
  have g2 : Ba (rgN sh k) * (Gr (rgN sh k) + Sm (rgN sh k)) ≤ 30 * 200 := Nat.mul_le_mul hb2 (by omega)
  refine lv_aload_n hx hb dX9_findTone_0 rfl (lv_at hl 0 rfl) ?_
  refine lv_iload_n hx hb dX9_findTone_1 rfl (lv_at hl 1 rfl) ?_
  refine rVi hE ⟨hx, hb, hml, hown, hts⟩ (c_X9_kindOf l E m0 sh rO rU rT rg rS rB rP rG ab0 be0 mk rM md rN rL rZ rE rI hc rA rX lnn rV rW sl rC rF rQ rK rR rD k (hs1) (hs4) (hr8) (hk)) (cwV 1 hts gX9_findTone_X9_kindOf rfl rfl rfl (by decide +kernel) ⟨Nat.le_of_ble_eq_true rfl, Nat.le_of_ble_eq_true rfl⟩) (hP.sub [0] rfl) 0 9 rfl rfl rfl hl.1 rfl (Nat.le_of_ble_eq_true rfl) dX9_findTone_2 ⟨(Nat.zero_le _), (Nat.zero_le _)⟩ ?_
  rw [show (nI (kdN sh k) : Int32) = 3 from by rw [hkd]; rfl]
  refine lv_istore_n (lv' := [(3, .int 3), (0, .ref m0), (1, .int (nI k)), (2, .int 1)]) hx hb dX9_findTone_5 rfl hl (by decide) rfl (fun ls hl => ?_)
  refine lv_aload_n hx hb dX9_findTone_6 rfl (lv_at hl 1 rfl) ?_
  refine lv_iload_n hx hb dX9_findTone_7 rfl (lv_at hl 2 rfl) ?_
  refine rVi hE ⟨hx, hb, hml, hown, hts⟩ (c_X9_shaftOf l E m0 sh rO rU rT rg rS rB rP rG ab0 be0 mk rM md rN rL rZ rE rI hc rA rX lnn rV rW sl rC rF rQ rK rR rD Si k (hs1) (hs4) (hr8) (hk)) (cwV 1 hts gX9_findTone_X9_shaftOf rfl rfl rfl (by decide +kernel) ⟨Nat.le_of_ble_eq_true rfl, Nat.le_of_ble_eq_true rfl⟩) (hP.sub [0, 4] rfl) 0 9 rfl rfl rfl hl.1 rfl (Nat.le_of_ble_eq_true rfl) dX9_findTone_8 ⟨(Nat.zero_le _), (Nat.zero_le _)⟩ ?_
  refine lv_istore (lv' := [(4, .int (nI (seN sh Si k))), (3, .int 3), (0, .ref m0), (1, .int (nI k)), (2, .int 1)]) hx hb dX9_findTone_11 hl (by decide) rfl (fun ls hl => ?_)
  refine lv_iload_n hx hb dX9_findTone_13 rfl (lv_at hl 4 rfl) ?_
  refine lv_i2l (v := 1) hx hb dX9_findTone_14 (by decide) ?_
  refine lv_lconst (v := 1) hx hb dX9_findTone_15 (by decide) ?_
  refine lv_ladd hx hb dX9_findTone_16 ?_
  rw [show ((1 : Int64) + (1 : Int64) : Int64) = lN (2) from lN_add 1 1]
  refine lv_lstore (lv' := [(5, .long (lN (2))), (4, .int (nI (seN sh Si k))), (3, .int 3), (0, .ref m0), (1, .int (nI k)), (2, .int 1)]) hx hb dX9_findTone_17 hl (by decide) rfl (fun ls hl => ?_)
  refine lv_lconst (v := 1) hx hb dX9_findTone_19 (by decide) ?_
  refine lv_lstore (lv' := [(7, .long 1), (5, .long (lN (2))), (4, .int (nI (seN sh Si k))), (3, .int 3), (0, .ref m0), (1, .int (nI k)), (2, .int 1)]) hx hb dX9_findTone_20 hl (by decide) rfl (fun ls hl => ?_)
  refine lv_iload_n hx hb dX9_findTone_22 rfl (lv_at hl 3 rfl) ?_
  refine lv_iconst (v := 1) hx hb dX9_findTone_23 (by decide) ?_
  refine lv_icmp_ne (tgt := 45) hx hb dX9_findTone_24 (by decide) (fun c_24 => ?_) (fun c_24 => by exfalso; revert c_24; decide)
  refine lv_iload_n hx hb dX9_findTone_45 rfl (lv_at hl 3 rfl) ?_
  refine lv_iconst (v := 1) hx hb dX9_findTone_46 (by decide) ?_
  refine lv_icmp_le (tgt := 203) hx hb dX9_findTone_47 (by decide) (fun c_47 => by exfalso; revert c_47; decide) (fun c_47 => ?_)
  refine lv_aload_n hx hb dX9_findTone_50 rfl (lv_at hl 4 rfl) ?_
  refine lv_iload_n hx hb dX9_findTone_51 rfl (lv_at hl 5 rfl) ?_
  refine rVi hE ⟨hx, hb, hml, hown, hts⟩ (c_X9_ringOf l E m0 sh rO rU rT rg rS rB rP rG ab0 be0 mk rM md rN rL rZ rE rI hc rA rX lnn rV rW sl rC rF rQ rK rR rD k (hs1) (hs4) (hr8) (hk) (hk2)) (cwV 1 hts gX9_findTone_X9_ringOf rfl rfl rfl (by decide +kernel) ⟨Nat.le_of_ble_eq_true rfl, Nat.le_of_ble_eq_true rfl⟩) (hP.sub [0] rfl) 0 9 rfl rfl rfl hl.1 rfl (Nat.le_of_ble_eq_true rfl) dX9_findTone_52 ⟨(Nat.zero_le _), (Nat.zero_le _)⟩ ?_
  refine lv_istore (lv' := [(9, .int (nI (rgN sh k))), (7, .long 1), (5, .long (lN (2))), (4, .int (nI (seN sh Si k))), (3, .int 3), (0, .ref m0), (1, .int (nI k)), (2, .int 1)]) hx hb dX9_findTone_55 hl (by decide) rfl (fun ls hl => ?_)
  refine lv_aload_n hx hb dX9_findTone_57 rfl (lv_at hl 5 rfl) ?_
  refine va_get (D := E.1) (ci := 9) (v := .ref rP) (C := RX9) (T := TX9) (N := 32) hx hb hts hinX9 hown hK hP 0 rfl rfl 7 (by decide) (hts (.fieldLink RX9 30 "WornRingsModel" "small" "[I") (by decide +kernel)) (fun _ h9 => h9) rfl dX9_findTone_58 ?_
  refine lv_iload hx hb dX9_findTone_61 (lv_at hl 0 rfl) ?_
  refine va_iald hx hb hK hP 6 1 rfl rfl (vp_in_nI (by omega) (by omega)) dX9_findTone_63 ?_
  rw [nI_clamp (n := rgN sh k) (by omega)]
  refine W.eq (g2 := F0 m 64 ls [.int (nI (Sm (rgN sh k)))]) rfl ?_
  refine lv_i2l (v := lN (Sm (rgN sh k))) hx hb dX9_findTone_64 (nI_l (by omega)) ?_
  refine lv_lstore (lv' := [(10, .long (lN (Sm (rgN sh k)))), (9, .int (nI (rgN sh k))), (7, .long 1), (5, .long (lN (2))), (4, .int (nI (seN sh Si k))), (3, .int 3), (0, .ref m0), (1, .int (nI k)), (2, .int 1)]) hx hb dX9_findTone_65 hl (by decide) rfl (fun ls hl => ?_)
  refine lv_aload_n hx hb dX9_findTone_67 rfl (lv_at hl 6 rfl) ?_
  refine va_get (D := E.1) (ci := 9) (v := .ref rG) (C := RX9) (T := TX9) (N := 32) hx hb hts hinX9 hown hK hP 0 rfl rfl 8 (by decide) (hts (.fieldLink RX9 33 "WornRingsModel" "great" "[I") (by decide +kernel)) (fun _ h9 => h9) rfl dX9_findTone_68 ?_
  refine lv_iload hx hb dX9_findTone_71 (lv_at hl 1 rfl) ?_
  refine va_iald hx hb hK hP 7 1 rfl rfl (vp_in_nI (by omega) (by omega)) dX9_findTone_73 ?_
  rw [nI_clamp (n := rgN sh k) (by omega)]
  refine W.eq (g2 := F0 m 74 ls [.int (nI (Gr (rgN sh k)))]) rfl ?_
  refine lv_i2l (v := lN (Gr (rgN sh k))) hx hb dX9_findTone_74 (nI_l (by omega)) ?_
  refine lv_lstore (lv' := [(12, .long (lN (Gr (rgN sh k)))), (10, .long (lN (Sm (rgN sh k)))), (9, .int (nI (rgN sh k))), (7, .long 1), (5, .long (lN (2))), (4, .int (nI (seN sh Si k))), (3, .int 3), (0, .ref m0), (1, .int (nI k)), (2, .int 1)]) hx hb dX9_findTone_75 hl (by decide) rfl (fun ls hl => ?_)
  refine lv_iload_n hx hb dX9_findTone_77 rfl (lv_at hl 6 rfl) ?_
  refine lv_iconst (v := 5) hx hb dX9_findTone_78 (by decide) ?_
  refine lv_icmp_ne (tgt := 94) hx hb dX9_findTone_79 (by decide) (fun c_79 => ?_) (fun c_79 => by exfalso; revert c_79; decide)
  refine lv_ldc2 (v := 2) hx hb hown (hts (.constantLong RX9 140 (2)) (by decide +kernel)) dX9_findTone_94 ?_
  refine lv_lload hx hb dX9_findTone_97 (lv_at hl 0 rfl) ?_
  refine lv_lmul hx hb dX9_findTone_99 ?_
  rw [show ((2 : Int64) * (lN (Gr (rgN sh k))) : Int64) = lN (2 * (Gr (rgN sh k))) from lN_mul 2 (Gr (rgN sh k))]
  refine lv_lstore (lv' := [(7, .long (lN (2 * (Gr (rgN sh k))))), (12, .long (lN (Gr (rgN sh k)))), (10, .long (lN (Sm (rgN sh k)))), (9, .int (nI (rgN sh k))), (5, .long (lN (2))), (4, .int (nI (seN sh Si k))), (3, .int 3), (0, .ref m0), (1, .int (nI k)), (2, .int 1)]) hx hb dX9_findTone_100 hl (by decide) rfl (fun ls hl => ?_)
  refine lv_iload_n hx hb dX9_findTone_102 rfl (lv_at hl 6 rfl) ?_
  refine lv_iconst (v := 2) hx hb dX9_findTone_103 (by decide) ?_
  refine lv_icmp_ne (tgt := 124) hx hb dX9_findTone_104 (by decide) (fun c_104 => ?_) (fun c_104 => by exfalso; revert c_104; decide)
  refine lv_iload_n hx hb dX9_findTone_124 rfl (lv_at hl 6 rfl) ?_
  refine lv_iconst (v := 3) hx hb dX9_findTone_125 (by decide) ?_
  refine lv_icmp_ne (tgt := 146) hx hb dX9_findTone_126 (by decide) (fun c_126 => by exfalso; revert c_126; decide) (fun c_126 => ?_)
  refine lv_aload_n hx hb dX9_findTone_129 rfl (lv_at hl 7 rfl) ?_
  refine va_get (D := E.1) (ci := 9) (v := .ref rB) (C := RX9) (T := TX9) (N := 32) hx hb hts hinX9 hown hK hP 0 rfl rfl 6 (by decide) (hts (.fieldLink RX9 27 "WornRingsModel" "balls" "[I") (by decide +kernel)) (fun _ h9 => h9) rfl dX9_findTone_130 ?_
  refine lv_iload hx hb dX9_findTone_133 (lv_at hl 3 rfl) ?_
  refine va_iald hx hb hK hP 5 1 rfl rfl (vp_in_nI (by omega) (by omega)) dX9_findTone_135 ?_
  rw [nI_clamp (n := rgN sh k) (by omega)]
  refine W.eq (g2 := F0 m 136 ls [.int (nI (Ba (rgN sh k)))]) rfl ?_
  refine lv_i2l (v := lN (Ba (rgN sh k))) hx hb dX9_findTone_136 (nI_l (by omega)) ?_
  refine lv_lload hx hb dX9_findTone_137 (lv_at hl 1 rfl) ?_
  refine lv_lload hx hb dX9_findTone_139 (lv_at hl 2 rfl) ?_
  refine lv_ladd hx hb dX9_findTone_141 ?_
  rw [show ((lN (Gr (rgN sh k))) + (lN (Sm (rgN sh k))) : Int64) = lN ((Gr (rgN sh k)) + (Sm (rgN sh k))) from lN_add (Gr (rgN sh k)) (Sm (rgN sh k))]
  refine lv_lmul hx hb dX9_findTone_142 ?_
  rw [show ((lN (Ba (rgN sh k))) * (lN ((Gr (rgN sh k)) + (Sm (rgN sh k)))) : Int64) = lN ((Ba (rgN sh k)) * ((Gr (rgN sh k)) + (Sm (rgN sh k)))) from lN_mul (Ba (rgN sh k)) ((Gr (rgN sh k)) + (Sm (rgN sh k)))]
  refine lv_goto (tgt := 170) hx hb dX9_findTone_143 (by decide) ?_
  refine lv_lstore (lv' := [(5, .long (lN ((Ba (rgN sh k)) * ((Gr (rgN sh k)) + (Sm (rgN sh k)))))), (7, .long (lN (2 * (Gr (rgN sh k))))), (12, .long (lN (Gr (rgN sh k)))), (10, .long (lN (Sm (rgN sh k)))), (9, .int (nI (rgN sh k))), (4, .int (nI (seN sh Si k))), (3, .int 3), (0, .ref m0), (1, .int (nI k)), (2, .int 1)]) hx hb dX9_findTone_170 hl (by decide) rfl (fun ls hl => ?_)
  refine lv_iload_n hx hb dX9_findTone_172 rfl (lv_at hl 9 rfl) ?_
  refine lv_iconst (v := 1) hx hb dX9_findTone_173 (by decide) ?_
  refine lv_icmp_ne (tgt := 186) hx hb dX9_findTone_174 (by decide) (fun c_174 => by exfalso; revert c_174; decide) (fun c_174 => ?_)
  refine lv_ldc2 (v := 2) hx hb hown (hts (.constantLong RX9 140 (2)) (by decide +kernel)) dX9_findTone_177 ?_
  refine lv_lload hx hb dX9_findTone_180 (lv_at hl 0 rfl) ?_
  refine lv_lmul hx hb dX9_findTone_182 ?_
  rw [show ((2 : Int64) * (lN ((Ba (rgN sh k)) * ((Gr (rgN sh k)) + (Sm (rgN sh k))))) : Int64) = lN (2 * ((Ba (rgN sh k)) * ((Gr (rgN sh k)) + (Sm (rgN sh k))))) from lN_mul 2 ((Ba (rgN sh k)) * ((Gr (rgN sh k)) + (Sm (rgN sh k))))]
  refine lv_goto (tgt := 201) hx hb dX9_findTone_183 (by decide) ?_
  refine lv_lstore (lv' := [(5, .long (lN (2 * ((Ba (rgN sh k)) * ((Gr (rgN sh k)) + (Sm (rgN sh k))))))), (7, .long (lN (2 * (Gr (rgN sh k))))), (12, .long (lN (Gr (rgN sh k)))), (10, .long (lN (Sm (rgN sh k)))), (9, .int (nI (rgN sh k))), (4, .int (nI (seN sh Si k))), (3, .int 3), (0, .ref m0), (1, .int (nI k)), (2, .int 1)]) hx hb dX9_findTone_201 hl (by decide) rfl (fun ls hl => ?_)
  refine lv_aload_n hx hb dX9_findTone_203 rfl (lv_at hl 7 rfl) ?_
  refine lv_aload_n hx hb dX9_findTone_204 rfl (lv_at hl 7 rfl) ?_
  refine va_get (D := E.1) (ci := 9) (v := .ref rO) (C := RX9) (T := TX9) (N := 32) hx hb hts hinX9 hown hK hP 0 rfl rfl 1 (by decide) (hts (.fieldLink RX9 13 "WornRingsModel" "over" "[J") (by decide +kernel)) (fun _ h9 => h9) rfl dX9_findTone_205 ?_
  refine lv_iload hx hb dX9_findTone_208 (lv_at hl 5 rfl) ?_
  refine va_lald hx hb hK hP 1 2 rfl rfl (vp_in_nI (by omega) (by omega)) dX9_findTone_210 ?_
  rw [nI_clamp (n := seN sh Si k) (by omega)]
  refine W.eq (g2 := F0 m 211 ls [.long (lN (U (seN sh Si k))), .ref m0]) rfl ?_
  refine lv_lload hx hb dX9_findTone_211 (lv_at hl 0 rfl) ?_
  refine lv_lmul hx hb dX9_findTone_213 ?_
  rw [show ((lN (U (seN sh Si k))) * (lN (2 * ((Ba (rgN sh k)) * ((Gr (rgN sh k)) + (Sm (rgN sh k)))))) : Int64) = lN ((U (seN sh Si k)) * (2 * ((Ba (rgN sh k)) * ((Gr (rgN sh k)) + (Sm (rgN sh k)))))) from lN_mul (U (seN sh Si k)) (2 * ((Ba (rgN sh k)) * ((Gr (rgN sh k)) + (Sm (rgN sh k)))))]
  refine lv_aload_n hx hb dX9_findTone_214 rfl (lv_at hl 7 rfl) ?_
  refine va_get (D := E.1) (ci := 9) (v := .ref rU) (C := RX9) (T := TX9) (N := 32) hx hb hts hinX9 hown hK hP 0 rfl rfl 2 (by decide) (hts (.fieldLink RX9 17 "WornRingsModel" "under" "[J") (by decide +kernel)) (fun _ h9 => h9) rfl dX9_findTone_215 ?_
  refine lv_iload hx hb dX9_findTone_218 (lv_at hl 5 rfl) ?_
  refine va_lald hx hb hK hP 2 2 rfl rfl (vp_in_nI (by omega) (by omega)) dX9_findTone_220 ?_
  rw [nI_clamp (n := seN sh Si k) (by omega)]
  refine W.eq (g2 := F0 m 221 ls [.long (lN (V (seN sh Si k))), .long (lN ((U (seN sh Si k)) * (2 * ((Ba (rgN sh k)) * ((Gr (rgN sh k)) + (Sm (rgN sh k))))))), .ref m0]) rfl ?_
  refine lv_lload hx hb dX9_findTone_221 (lv_at hl 1 rfl) ?_
  refine lv_lmul hx hb dX9_findTone_223 ?_
  rw [show ((lN (V (seN sh Si k))) * (lN (2 * (Gr (rgN sh k)))) : Int64) = lN ((V (seN sh Si k)) * (2 * (Gr (rgN sh k)))) from lN_mul (V (seN sh Si k)) (2 * (Gr (rgN sh k)))]
  refine wVv (wr := [(rO, .inl (E.2 2, 4, .inr (.inl (lA U)))), (rU, .inl (E.2 2, 4, .inr (.inl (lA V)))), (rT, .inl (E.2 1, 4, .inl (nA Te))), (rS, .inl (E.2 1, 8, .inl (nA Si))), (rB, .inl (E.2 1, 8, .inl (nA Ba))), (rP, .inl (E.2 1, 8, .inl (nA Sm))), (rG, .inl (E.2 1, 8, .inl (nA Gr)))]) hE ⟨hx, hb, hml, hown, hts⟩ (c_X9_reduce l E s.heap.size m0 (nI sh) rO rU rT (nI rg) rS rB rP rG ab0 be0 mk rM md rN rL rZ rE rI hc rA rX lnn rV rW sl rC rF rQ rK rR rD ((U (seN sh Si k)) * (2 * ((Ba (rgN sh k)) * ((Gr (rgN sh k)) + (Sm (rgN sh k)))))) ((V (seN sh Si k)) * (2 * (Gr (rgN sh k)))) (Nat.mul_pos hU1 (by omega)) (Nat.lt_of_le_of_lt (Nat.mul_le_mul hU2 (show _ ≤ 20000 by omega)) (by decide)) (Nat.mul_pos hV1 (by omega)) (Nat.lt_of_le_of_lt (Nat.mul_le_mul hV2 (show _ ≤ 20000 by omega)) (by decide))) (cwV 2 hts gX9_findTone_X9_reduce rfl rfl rfl (by decide +kernel) ⟨Nat.le_of_ble_eq_true rfl, Nat.le_of_ble_eq_true rfl⟩) hP hD hS hA [0] [1, 2, 3, 4, 5, 6, 7] rfl rfl (by decide) (by decide) (by decide) 0 9 rfl rfl rfl hl.1 rfl (Nat.le_of_ble_eq_true rfl) dX9_findTone_224 ⟨(Nat.zero_le _), (Nat.zero_le _)⟩ (fun u H locs hw hP hD hS => ?_)
  have hP : va_P E.1 vwCl [(rO, .inl (E.2 2, 4, .inr (.inl (lA U)))), (rU, .inl (E.2 2, 4, .inr (.inl (lA V)))), (rT, .inl (E.2 1, 4, .inl (nA Te))), (rS, .inl (E.2 1, 8, .inl (nA Si))), (rB, .inl (E.2 1, 8, .inl (nA Ba))), (rP, .inl (E.2 1, 8, .inl (nA Sm))), (rG, .inl (E.2 1, 8, .inl (nA Gr))), (m0, .inr (9, [.int (nI sh), .ref rO, .ref rU, .ref rT, .int (nI rg), .ref rS, .ref rB, .ref rP, .ref rG, .long (lN (tA ((U (seN sh Si k)) * (2 * ((Ba (rgN sh k)) * ((Gr (rgN sh k)) + (Sm (rgN sh k)))))) ((V (seN sh Si k)) * (2 * (Gr (rgN sh k)))))), .long (lN (tB ((U (seN sh Si k)) * (2 * ((Ba (rgN sh k)) * ((Gr (rgN sh k)) + (Sm (rgN sh k)))))) ((V (seN sh Si k)) * (2 * (Gr (rgN sh k)))))), .int mk, .ref rM, .int md, .ref rN, .ref rL, .ref rZ, .ref rE, .ref rI, .int hc, .ref rA, .ref rX, .int lnn, .ref rV, .ref rW, .int sl, .ref rC, .ref rF, .ref rQ, .ref rK, .ref rR, .ref rD]))] H := hP
  have hD : va_D A [(rO, .inl (E.2 2, 4, .inr (.inl (lA U)))), (rU, .inl (E.2 2, 4, .inr (.inl (lA V)))), (rT, .inl (E.2 1, 4, .inl (nA Te))), (rS, .inl (E.2 1, 8, .inl (nA Si))), (rB, .inl (E.2 1, 8, .inl (nA Ba))), (rP, .inl (E.2 1, 8, .inl (nA Sm))), (rG, .inl (E.2 1, 8, .inl (nA Gr))), (m0, .inr (9, [.int (nI sh), .ref rO, .ref rU, .ref rT, .int (nI rg), .ref rS, .ref rB, .ref rP, .ref rG, .long (lN (tA ((U (seN sh Si k)) * (2 * ((Ba (rgN sh k)) * ((Gr (rgN sh k)) + (Sm (rgN sh k)))))) ((V (seN sh Si k)) * (2 * (Gr (rgN sh k)))))), .long (lN (tB ((U (seN sh Si k)) * (2 * ((Ba (rgN sh k)) * ((Gr (rgN sh k)) + (Sm (rgN sh k)))))) ((V (seN sh Si k)) * (2 * (Gr (rgN sh k)))))), .int mk, .ref rM, .int md, .ref rN, .ref rL, .ref rZ, .ref rE, .ref rI, .int hc, .ref rA, .ref rX, .int lnn, .ref rV, .ref rW, .int sl, .ref rC, .ref rF, .ref rQ, .ref rK, .ref rR, .ref rD]))] := hD
  have e9 : ([(m0, .inr (9, [.int (nI sh), .ref rO, .ref rU, .ref rT, .int (nI rg), .ref rS, .ref rB, .ref rP, .ref rG, .long (lN (tA (U (seN sh Si k) * (2 * (Ba (rgN sh k) * (Gr (rgN sh k) + Sm (rgN sh k))))) (V (seN sh Si k) * (2 * Gr (rgN sh k))))), .long (lN (tB (U (seN sh Si k) * (2 * (Ba (rgN sh k) * (Gr (rgN sh k) + Sm (rgN sh k))))) (V (seN sh Si k) * (2 * Gr (rgN sh k))))), .int mk, .ref rM, .int md, .ref rN, .ref rL, .ref rZ, .ref rE, .ref rI, .int hc, .ref rA, .ref rX, .int lnn, .ref rV, .ref rW, .int sl, .ref rC, .ref rF, .ref rQ, .ref rK, .ref rR, .ref rD])), (rO, .inl (E.2 2, 4, .inr (.inl (lA U)))), (rU, .inl (E.2 2, 4, .inr (.inl (lA V)))), (rT, .inl (E.2 1, 4, .inl (nA Te))), (rS, .inl (E.2 1, 8, .inl (nA Si))), (rB, .inl (E.2 1, 8, .inl (nA Ba))), (rP, .inl (E.2 1, 8, .inl (nA Sm))), (rG, .inl (E.2 1, 8, .inl (nA Gr)))] : va_W) = [(m0, .inr (9, [.int (nI sh), .ref rO, .ref rU, .ref rT, .int (nI rg), .ref rS, .ref rB, .ref rP, .ref rG, .long (lN (tA ((U (seN sh Si k)) * (2 * ((Ba (rgN sh k)) * ((Gr (rgN sh k)) + (Sm (rgN sh k)))))) ((V (seN sh Si k)) * (2 * (Gr (rgN sh k)))))), .long (lN (tB ((U (seN sh Si k)) * (2 * ((Ba (rgN sh k)) * ((Gr (rgN sh k)) + (Sm (rgN sh k)))))) ((V (seN sh Si k)) * (2 * (Gr (rgN sh k)))))), .int mk, .ref rM, .int md, .ref rN, .ref rL, .ref rZ, .ref rE, .ref rI, .int hc, .ref rA, .ref rX, .int lnn, .ref rV, .ref rW, .int sl, .ref rC, .ref rF, .ref rQ, .ref rK, .ref rR, .ref rD])), (rO, .inl (E.2 2, 4, .inr (.inl (lA U)))), (rU, .inl (E.2 2, 4, .inr (.inl (lA V)))), (rT, .inl (E.2 1, 4, .inl (nA Te))), (rS, .inl (E.2 1, 8, .inl (nA Si))), (rB, .inl (E.2 1, 8, .inl (nA Ba))), (rP, .inl (E.2 1, 8, .inl (nA Sm))), (rG, .inl (E.2 1, 8, .inl (nA Gr)))] := by rfl
  have hP9 : va_P E.1 vwCl [(m0, .inr (9, [.int (nI sh), .ref rO, .ref rU, .ref rT, .int (nI rg), .ref rS, .ref rB, .ref rP, .ref rG, .long (lN (tA (U (seN sh Si k) * (2 * (Ba (rgN sh k) * (Gr (rgN sh k) + Sm (rgN sh k))))) (V (seN sh Si k) * (2 * Gr (rgN sh k))))), .long (lN (tB (U (seN sh Si k) * (2 * (Ba (rgN sh k) * (Gr (rgN sh k) + Sm (rgN sh k))))) (V (seN sh Si k) * (2 * Gr (rgN sh k))))), .int mk, .ref rM, .int md, .ref rN, .ref rL, .ref rZ, .ref rE, .ref rI, .int hc, .ref rA, .ref rX, .int lnn, .ref rV, .ref rW, .int sl, .ref rC, .ref rF, .ref rQ, .ref rK, .ref rR, .ref rD])), (rO, .inl (E.2 2, 4, .inr (.inl (lA U)))), (rU, .inl (E.2 2, 4, .inr (.inl (lA V)))), (rT, .inl (E.2 1, 4, .inl (nA Te))), (rS, .inl (E.2 1, 8, .inl (nA Si))), (rB, .inl (E.2 1, 8, .inl (nA Ba))), (rP, .inl (E.2 1, 8, .inl (nA Sm))), (rG, .inl (E.2 1, 8, .inl (nA Gr)))] H := by rw [e9]; exact hP.sub [7, 0, 1, 2, 3, 4, 5, 6] rfl
  have hD9 : va_D A [(m0, .inr (9, [.int (nI sh), .ref rO, .ref rU, .ref rT, .int (nI rg), .ref rS, .ref rB, .ref rP, .ref rG, .long (lN (tA (U (seN sh Si k) * (2 * (Ba (rgN sh k) * (Gr (rgN sh k) + Sm (rgN sh k))))) (V (seN sh Si k) * (2 * Gr (rgN sh k))))), .long (lN (tB (U (seN sh Si k) * (2 * (Ba (rgN sh k) * (Gr (rgN sh k) + Sm (rgN sh k))))) (V (seN sh Si k) * (2 * Gr (rgN sh k))))), .int mk, .ref rM, .int md, .ref rN, .ref rL, .ref rZ, .ref rE, .ref rI, .int hc, .ref rA, .ref rX, .int lnn, .ref rV, .ref rW, .int sl, .ref rC, .ref rF, .ref rQ, .ref rK, .ref rR, .ref rD])), (rO, .inl (E.2 2, 4, .inr (.inl (lA U)))), (rU, .inl (E.2 2, 4, .inr (.inl (lA V)))), (rT, .inl (E.2 1, 4, .inl (nA Te))), (rS, .inl (E.2 1, 8, .inl (nA Si))), (rB, .inl (E.2 1, 8, .inl (nA Ba))), (rP, .inl (E.2 1, 8, .inl (nA Sm))), (rG, .inl (E.2 1, 8, .inl (nA Gr)))] := by rw [e9]; exact hD.sub [7, 0, 1, 2, 3, 4, 5, 6] (by decide) rfl
  exact W.vret hx hb hr (fun t9 ht9 hW9 => ⟨⟨(), rfl, trivial, ⟨by rw [ht9]; exact hP9, hD9⟩⟩, hS.F ht9⟩) hS.2.2 dX9_findTone_227
set_option maxHeartbeats 1000000 in
set_option maxRecDepth 100000 in
theorem c_X9_findTone_3_2 (l : Launch) (E : EnvT) (sz : Nat) (m0 : Nat) (sh : Nat) (rO : Nat) (rU : Nat) (rT : Nat) (rg : Nat) (rS : Nat) (rB : Nat) (rP : Nat) (rG : Nat) (ab0 : Int64) (be0 : Int64) (mk : Int32) (rM : Nat) (md : Int32) (rN : Nat) (rL : Nat) (rZ : Nat) (rE : Nat) (rI : Nat) (hc : Int32) (rA : Nat) (rX : Nat) (lnn : Int32) (rV : Nat) (rW : Nat) (sl : Int32) (rC : Nat) (rF : Nat) (rQ : Nat) (rK : Nat) (rR : Nat) (rD : Nat) (U : Nat → Nat) (V : Nat → Nat) (Te : Nat → Nat) (Si : Nat → Nat) (Ba : Nat → Nat) (Sm : Nat → Nat) (Gr : Nat → Nat) (k : Nat) (hs1 : 1 ≤ sh) (hs4 : sh ≤ 4) (hr8 : rg ≤ 8) (hk : k < 2 * sh - 1 + 4 * rg) (hse : seN sh Si k < 4) (hU1 : 0 < U (seN sh Si k)) (hU2 : U (seN sh Si k) ≤ 8000000) (hV1 : 0 < V (seN sh Si k)) (hV2 : V (seN sh Si k) ≤ 8000000) (hkd : kdN sh k = 3) (hk2 : 2 * sh - 1 ≤ k) (hrr : rgN sh k < 8) (hb1 : 3 ≤ Ba (rgN sh k)) (hb2 : Ba (rgN sh k) ≤ 30) (hp1 : 1 ≤ Sm (rgN sh k)) (hpq : Sm (rgN sh k) < Gr (rgN sh k)) (hq2 : Gr (rgN sh k) ≤ 100) : Met l yX9_findTone wsX9_findTone ({ frames := 2, cells := 0, slots := 0, locals := 42 }) (va_Pc [.ref m0, .int (nI k), .int 2] (PW E [(m0, .inr (9, [.int (nI sh), .ref rO, .ref rU, .ref rT, .int (nI rg), .ref rS, .ref rB, .ref rP, .ref rG, .long ab0, .long be0, .int mk, .ref rM, .int md, .ref rN, .ref rL, .ref rZ, .ref rE, .ref rI, .int hc, .ref rA, .ref rX, .int lnn, .ref rV, .ref rW, .int sl, .ref rC, .ref rF, .ref rQ, .ref rK, .ref rR, .ref rD])), (rO, .inl (E.2 2, 4, .inr (.inl (lA U)))), (rU, .inl (E.2 2, 4, .inr (.inl (lA V)))), (rT, .inl (E.2 1, 4, .inl (nA Te))), (rS, .inl (E.2 1, 8, .inl (nA Si))), (rB, .inl (E.2 1, 8, .inl (nA Ba))), (rP, .inl (E.2 1, 8, .inl (nA Sm))), (rG, .inl (E.2 1, 8, .inl (nA Gr)))] sz)) (va_Qv (fun (uu : Unit) => True) (fun (uu : Unit) t => BW E (va_A [(m0, .inr (9, [.int (nI sh), .ref rO, .ref rU, .ref rT, .int (nI rg), .ref rS, .ref rB, .ref rP, .ref rG, .long ab0, .long be0, .int mk, .ref rM, .int md, .ref rN, .ref rL, .ref rZ, .ref rE, .ref rI, .int hc, .ref rA, .ref rX, .int lnn, .ref rV, .ref rW, .int sl, .ref rC, .ref rF, .ref rQ, .ref rK, .ref rR, .ref rD])), (rO, .inl (E.2 2, 4, .inr (.inl (lA U)))), (rU, .inl (E.2 2, 4, .inr (.inl (lA V)))), (rT, .inl (E.2 1, 4, .inl (nA Te))), (rS, .inl (E.2 1, 8, .inl (nA Si))), (rB, .inl (E.2 1, 8, .inl (nA Ba))), (rP, .inl (E.2 1, 8, .inl (nA Sm))), (rG, .inl (E.2 1, 8, .inl (nA Gr)))] sz) [(m0, .inr (9, [.int (nI sh), .ref rO, .ref rU, .ref rT, .int (nI rg), .ref rS, .ref rB, .ref rP, .ref rG, .long (lN (tA (U (seN sh Si k) * (Ba (rgN sh k) * (Gr (rgN sh k) + Sm (rgN sh k)) - 2 * Gr (rgN sh k))) (V (seN sh Si k) * (2 * Gr (rgN sh k))))), .long (lN (tB (U (seN sh Si k) * (Ba (rgN sh k) * (Gr (rgN sh k) + Sm (rgN sh k)) - 2 * Gr (rgN sh k))) (V (seN sh Si k) * (2 * Gr (rgN sh k))))), .int mk, .ref rM, .int md, .ref rN, .ref rL, .ref rZ, .ref rE, .ref rI, .int hc, .ref rA, .ref rX, .int lnn, .ref rV, .ref rW, .int sl, .ref rC, .ref rF, .ref rQ, .ref rK, .ref rR, .ref rD])), (rO, .inl (E.2 2, 4, .inr (.inl (lA U)))), (rU, .inl (E.2 2, 4, .inr (.inl (lA V)))), (rT, .inl (E.2 1, 4, .inl (nA Te))), (rS, .inl (E.2 1, 8, .inl (nA Si))), (rB, .inl (E.2 1, 8, .inl (nA Ba))), (rP, .inl (E.2 1, 8, .inl (nA Sm))), (rG, .inl (E.2 1, 8, .inl (nA Gr)))] t) (va_A [(m0, .inr (9, [.int (nI sh), .ref rO, .ref rU, .ref rT, .int (nI rg), .ref rS, .ref rB, .ref rP, .ref rG, .long ab0, .long be0, .int mk, .ref rM, .int md, .ref rN, .ref rL, .ref rZ, .ref rE, .ref rI, .int hc, .ref rA, .ref rX, .int lnn, .ref rV, .ref rW, .int sl, .ref rC, .ref rF, .ref rQ, .ref rK, .ref rR, .ref rD])), (rO, .inl (E.2 2, 4, .inr (.inl (lA U)))), (rU, .inl (E.2 2, 4, .inr (.inl (lA V)))), (rT, .inl (E.2 1, 4, .inl (nA Te))), (rS, .inl (E.2 1, 8, .inl (nA Si))), (rB, .inl (E.2 1, 8, .inl (nA Ba))), (rP, .inl (E.2 1, 8, .inl (nA Sm))), (rG, .inl (E.2 1, 8, .inl (nA Gr)))] sz)) 0 0 (va_A [(m0, .inr (9, [.int (nI sh), .ref rO, .ref rU, .ref rT, .int (nI rg), .ref rS, .ref rB, .ref rP, .ref rG, .long ab0, .long be0, .int mk, .ref rM, .int md, .ref rN, .ref rL, .ref rZ, .ref rE, .ref rI, .int hc, .ref rA, .ref rX, .int lnn, .ref rV, .ref rW, .int sl, .ref rC, .ref rF, .ref rQ, .ref rK, .ref rR, .ref rD])), (rO, .inl (E.2 2, 4, .inr (.inl (lA U)))), (rU, .inl (E.2 2, 4, .inr (.inl (lA V)))), (rT, .inl (E.2 1, 4, .inl (nA Te))), (rS, .inl (E.2 1, 8, .inl (nA Si))), (rB, .inl (E.2 1, 8, .inl (nA Ba))), (rP, .inl (E.2 1, 8, .inl (nA Sm))), (rG, .inl (E.2 1, 8, .inl (nA Gr)))] sz) := by
  refine Met.ofW (cc := cX9_findTone) (maxL := 14) (ret := none) (by decide +kernel) rfl ?_
  intro p e s m args below meth c s₁ B hml hv
  obtain ⟨rfl, hsz, hP, hE, hD0⟩ := hv
  have hx := B.exec
  have hb := B.bytes
  have hr := B.returns
  have hts := atoms_spec (ws := wsX9_findTone) B.pre
  have hown : s.vm.findClass RX9 = some m.cls := findClass_of_methodNamed B.named
  have hlocks := B.notSynchronized
  have hK := hE.1
  have hNN := hE.2.1
  have hinX9 : ∀ w ∈ wsX90, w ∈ wsX9_findTone := fun w h => List.mem_cons_of_mem _ (List.mem_append_right _ h)
  subst hsz
  have hD := hD0.self (sz := s.heap.size)
  generalize hAe : va_A [(m0, .inr (9, [.int (nI sh), .ref rO, .ref rU, .ref rT, .int (nI rg), .ref rS, .ref rB, .ref rP, .ref rG, .long ab0, .long be0, .int mk, .ref rM, .int md, .ref rN, .ref rL, .ref rZ, .ref rE, .ref rI, .int hc, .ref rA, .ref rX, .int lnn, .ref rV, .ref rW, .int sl, .ref rC, .ref rF, .ref rQ, .ref rK, .ref rR, .ref rD])), (rO, .inl (E.2 2, 4, .inr (.inl (lA U)))), (rU, .inl (E.2 2, 4, .inr (.inl (lA V)))), (rT, .inl (E.2 1, 4, .inl (nA Te))), (rS, .inl (E.2 1, 8, .inl (nA Si))), (rB, .inl (E.2 1, 8, .inl (nA Ba))), (rP, .inl (E.2 1, 8, .inl (nA Sm))), (rG, .inl (E.2 1, 8, .inl (nA Gr)))] s.heap.size = A at hD ⊢
  have hA : ∀ q : Nat, s.heap.size ≤ q → A q := fun q h => by rw [← hAe]; exact Or.inr h
  have hS : va_S A s.heap s.heap [] := va_S.rf
  have hl := lv_entry ([.ref m0, .int (nI k), .int 2]) (n := 14) (Nat.le_of_ble_eq_true rfl)
  rw [lg_entry_eq]
  generalize (lg_sl ([.ref m0, .int (nI k), .int 2]) ++ List.replicate (14 - (lg_sl ([.ref m0, .int (nI k), .int 2])).length) Slot.unset).toArray = ls at hl ⊢
  have hl : lv_has ls 14 [(0, .ref m0), (1, .int (nI k)), (2, .int 2)] := hl
  have g1 : 3 * (Gr (rgN sh k) + Sm (rgN sh k)) ≤ Ba (rgN sh k) * (Gr (rgN sh k) + Sm (rgN sh k)) := Nat.mul_le_mul_right _ hb1
  have g2 : Ba (rgN sh k) * (Gr (rgN sh k) + Sm (rgN sh k)) ≤ 30 * 200 := Nat.mul_le_mul hb2 (by omega)
  refine lv_aload_n hx hb dX9_findTone_0 rfl (lv_at hl 0 rfl) ?_
  refine lv_iload_n hx hb dX9_findTone_1 rfl (lv_at hl 1 rfl) ?_
  refine rVi hE ⟨hx, hb, hml, hown, hts⟩ (c_X9_kindOf l E m0 sh rO rU rT rg rS rB rP rG ab0 be0 mk rM md rN rL rZ rE rI hc rA rX lnn rV rW sl rC rF rQ rK rR rD k (hs1) (hs4) (hr8) (hk)) (cwV 1 hts gX9_findTone_X9_kindOf rfl rfl rfl (by decide +kernel) ⟨Nat.le_of_ble_eq_true rfl, Nat.le_of_ble_eq_true rfl⟩) (hP.sub [0] rfl) 0 9 rfl rfl rfl hl.1 rfl (Nat.le_of_ble_eq_true rfl) dX9_findTone_2 ⟨(Nat.zero_le _), (Nat.zero_le _)⟩ ?_
  rw [show (nI (kdN sh k) : Int32) = 3 from by rw [hkd]; rfl]
  refine lv_istore_n (lv' := [(3, .int 3), (0, .ref m0), (1, .int (nI k)), (2, .int 2)]) hx hb dX9_findTone_5 rfl hl (by decide) rfl (fun ls hl => ?_)
  refine lv_aload_n hx hb dX9_findTone_6 rfl (lv_at hl 1 rfl) ?_
  refine lv_iload_n hx hb dX9_findTone_7 rfl (lv_at hl 2 rfl) ?_
  refine rVi hE ⟨hx, hb, hml, hown, hts⟩ (c_X9_shaftOf l E m0 sh rO rU rT rg rS rB rP rG ab0 be0 mk rM md rN rL rZ rE rI hc rA rX lnn rV rW sl rC rF rQ rK rR rD Si k (hs1) (hs4) (hr8) (hk)) (cwV 1 hts gX9_findTone_X9_shaftOf rfl rfl rfl (by decide +kernel) ⟨Nat.le_of_ble_eq_true rfl, Nat.le_of_ble_eq_true rfl⟩) (hP.sub [0, 4] rfl) 0 9 rfl rfl rfl hl.1 rfl (Nat.le_of_ble_eq_true rfl) dX9_findTone_8 ⟨(Nat.zero_le _), (Nat.zero_le _)⟩ ?_
  refine lv_istore (lv' := [(4, .int (nI (seN sh Si k))), (3, .int 3), (0, .ref m0), (1, .int (nI k)), (2, .int 2)]) hx hb dX9_findTone_11 hl (by decide) rfl (fun ls hl => ?_)
  refine lv_iload_n hx hb dX9_findTone_13 rfl (lv_at hl 4 rfl) ?_
  refine lv_i2l (v := 2) hx hb dX9_findTone_14 (by decide) ?_
  refine lv_lconst (v := 1) hx hb dX9_findTone_15 (by decide) ?_
  refine lv_ladd hx hb dX9_findTone_16 ?_
  rw [show ((2 : Int64) + (1 : Int64) : Int64) = lN (3) from lN_add 2 1]
  refine lv_lstore (lv' := [(5, .long (lN (3))), (4, .int (nI (seN sh Si k))), (3, .int 3), (0, .ref m0), (1, .int (nI k)), (2, .int 2)]) hx hb dX9_findTone_17 hl (by decide) rfl (fun ls hl => ?_)
  refine lv_lconst (v := 1) hx hb dX9_findTone_19 (by decide) ?_
  refine lv_lstore (lv' := [(7, .long 1), (5, .long (lN (3))), (4, .int (nI (seN sh Si k))), (3, .int 3), (0, .ref m0), (1, .int (nI k)), (2, .int 2)]) hx hb dX9_findTone_20 hl (by decide) rfl (fun ls hl => ?_)
  refine lv_iload_n hx hb dX9_findTone_22 rfl (lv_at hl 3 rfl) ?_
  refine lv_iconst (v := 1) hx hb dX9_findTone_23 (by decide) ?_
  refine lv_icmp_ne (tgt := 45) hx hb dX9_findTone_24 (by decide) (fun c_24 => ?_) (fun c_24 => by exfalso; revert c_24; decide)
  refine lv_iload_n hx hb dX9_findTone_45 rfl (lv_at hl 3 rfl) ?_
  refine lv_iconst (v := 1) hx hb dX9_findTone_46 (by decide) ?_
  refine lv_icmp_le (tgt := 203) hx hb dX9_findTone_47 (by decide) (fun c_47 => by exfalso; revert c_47; decide) (fun c_47 => ?_)
  refine lv_aload_n hx hb dX9_findTone_50 rfl (lv_at hl 4 rfl) ?_
  refine lv_iload_n hx hb dX9_findTone_51 rfl (lv_at hl 5 rfl) ?_
  refine rVi hE ⟨hx, hb, hml, hown, hts⟩ (c_X9_ringOf l E m0 sh rO rU rT rg rS rB rP rG ab0 be0 mk rM md rN rL rZ rE rI hc rA rX lnn rV rW sl rC rF rQ rK rR rD k (hs1) (hs4) (hr8) (hk) (hk2)) (cwV 1 hts gX9_findTone_X9_ringOf rfl rfl rfl (by decide +kernel) ⟨Nat.le_of_ble_eq_true rfl, Nat.le_of_ble_eq_true rfl⟩) (hP.sub [0] rfl) 0 9 rfl rfl rfl hl.1 rfl (Nat.le_of_ble_eq_true rfl) dX9_findTone_52 ⟨(Nat.zero_le _), (Nat.zero_le _)⟩ ?_
  refine lv_istore (lv' := [(9, .int (nI (rgN sh k))), (7, .long 1), (5, .long (lN (3))), (4, .int (nI (seN sh Si k))), (3, .int 3), (0, .ref m0), (1, .int (nI k)), (2, .int 2)]) hx hb dX9_findTone_55 hl (by decide) rfl (fun ls hl => ?_)
  refine lv_aload_n hx hb dX9_findTone_57 rfl (lv_at hl 5 rfl) ?_
  refine va_get (D := E.1) (ci := 9) (v := .ref rP) (C := RX9) (T := TX9) (N := 32) hx hb hts hinX9 hown hK hP 0 rfl rfl 7 (by decide) (hts (.fieldLink RX9 30 "WornRingsModel" "small" "[I") (by decide +kernel)) (fun _ h9 => h9) rfl dX9_findTone_58 ?_
  refine lv_iload hx hb dX9_findTone_61 (lv_at hl 0 rfl) ?_
  refine va_iald hx hb hK hP 6 1 rfl rfl (vp_in_nI (by omega) (by omega)) dX9_findTone_63 ?_
  rw [nI_clamp (n := rgN sh k) (by omega)]
  refine W.eq (g2 := F0 m 64 ls [.int (nI (Sm (rgN sh k)))]) rfl ?_
  refine lv_i2l (v := lN (Sm (rgN sh k))) hx hb dX9_findTone_64 (nI_l (by omega)) ?_
  refine lv_lstore (lv' := [(10, .long (lN (Sm (rgN sh k)))), (9, .int (nI (rgN sh k))), (7, .long 1), (5, .long (lN (3))), (4, .int (nI (seN sh Si k))), (3, .int 3), (0, .ref m0), (1, .int (nI k)), (2, .int 2)]) hx hb dX9_findTone_65 hl (by decide) rfl (fun ls hl => ?_)
  refine lv_aload_n hx hb dX9_findTone_67 rfl (lv_at hl 6 rfl) ?_
  refine va_get (D := E.1) (ci := 9) (v := .ref rG) (C := RX9) (T := TX9) (N := 32) hx hb hts hinX9 hown hK hP 0 rfl rfl 8 (by decide) (hts (.fieldLink RX9 33 "WornRingsModel" "great" "[I") (by decide +kernel)) (fun _ h9 => h9) rfl dX9_findTone_68 ?_
  refine lv_iload hx hb dX9_findTone_71 (lv_at hl 1 rfl) ?_
  refine va_iald hx hb hK hP 7 1 rfl rfl (vp_in_nI (by omega) (by omega)) dX9_findTone_73 ?_
  rw [nI_clamp (n := rgN sh k) (by omega)]
  refine W.eq (g2 := F0 m 74 ls [.int (nI (Gr (rgN sh k)))]) rfl ?_
  refine lv_i2l (v := lN (Gr (rgN sh k))) hx hb dX9_findTone_74 (nI_l (by omega)) ?_
  refine lv_lstore (lv' := [(12, .long (lN (Gr (rgN sh k)))), (10, .long (lN (Sm (rgN sh k)))), (9, .int (nI (rgN sh k))), (7, .long 1), (5, .long (lN (3))), (4, .int (nI (seN sh Si k))), (3, .int 3), (0, .ref m0), (1, .int (nI k)), (2, .int 2)]) hx hb dX9_findTone_75 hl (by decide) rfl (fun ls hl => ?_)
  refine lv_iload_n hx hb dX9_findTone_77 rfl (lv_at hl 6 rfl) ?_
  refine lv_iconst (v := 5) hx hb dX9_findTone_78 (by decide) ?_
  refine lv_icmp_ne (tgt := 94) hx hb dX9_findTone_79 (by decide) (fun c_79 => ?_) (fun c_79 => by exfalso; revert c_79; decide)
  refine lv_ldc2 (v := 2) hx hb hown (hts (.constantLong RX9 140 (2)) (by decide +kernel)) dX9_findTone_94 ?_
  refine lv_lload hx hb dX9_findTone_97 (lv_at hl 0 rfl) ?_
  refine lv_lmul hx hb dX9_findTone_99 ?_
  rw [show ((2 : Int64) * (lN (Gr (rgN sh k))) : Int64) = lN (2 * (Gr (rgN sh k))) from lN_mul 2 (Gr (rgN sh k))]
  refine lv_lstore (lv' := [(7, .long (lN (2 * (Gr (rgN sh k))))), (12, .long (lN (Gr (rgN sh k)))), (10, .long (lN (Sm (rgN sh k)))), (9, .int (nI (rgN sh k))), (5, .long (lN (3))), (4, .int (nI (seN sh Si k))), (3, .int 3), (0, .ref m0), (1, .int (nI k)), (2, .int 2)]) hx hb dX9_findTone_100 hl (by decide) rfl (fun ls hl => ?_)
  refine lv_iload_n hx hb dX9_findTone_102 rfl (lv_at hl 6 rfl) ?_
  refine lv_iconst (v := 2) hx hb dX9_findTone_103 (by decide) ?_
  refine lv_icmp_ne (tgt := 124) hx hb dX9_findTone_104 (by decide) (fun c_104 => ?_) (fun c_104 => by exfalso; revert c_104; decide)
  refine lv_iload_n hx hb dX9_findTone_124 rfl (lv_at hl 6 rfl) ?_
  refine lv_iconst (v := 3) hx hb dX9_findTone_125 (by decide) ?_
  refine lv_icmp_ne (tgt := 146) hx hb dX9_findTone_126 (by decide) (fun c_126 => by exfalso; revert c_126; decide) (fun c_126 => ?_)
  refine lv_aload_n hx hb dX9_findTone_129 rfl (lv_at hl 7 rfl) ?_
  refine va_get (D := E.1) (ci := 9) (v := .ref rB) (C := RX9) (T := TX9) (N := 32) hx hb hts hinX9 hown hK hP 0 rfl rfl 6 (by decide) (hts (.fieldLink RX9 27 "WornRingsModel" "balls" "[I") (by decide +kernel)) (fun _ h9 => h9) rfl dX9_findTone_130 ?_
  refine lv_iload hx hb dX9_findTone_133 (lv_at hl 3 rfl) ?_
  refine va_iald hx hb hK hP 5 1 rfl rfl (vp_in_nI (by omega) (by omega)) dX9_findTone_135 ?_
  rw [nI_clamp (n := rgN sh k) (by omega)]
  refine W.eq (g2 := F0 m 136 ls [.int (nI (Ba (rgN sh k)))]) rfl ?_
  refine lv_i2l (v := lN (Ba (rgN sh k))) hx hb dX9_findTone_136 (nI_l (by omega)) ?_
  refine lv_lload hx hb dX9_findTone_137 (lv_at hl 1 rfl) ?_
  refine lv_lload hx hb dX9_findTone_139 (lv_at hl 2 rfl) ?_
  refine lv_ladd hx hb dX9_findTone_141 ?_
  rw [show ((lN (Gr (rgN sh k))) + (lN (Sm (rgN sh k))) : Int64) = lN ((Gr (rgN sh k)) + (Sm (rgN sh k))) from lN_add (Gr (rgN sh k)) (Sm (rgN sh k))]
  refine lv_lmul hx hb dX9_findTone_142 ?_
  rw [show ((lN (Ba (rgN sh k))) * (lN ((Gr (rgN sh k)) + (Sm (rgN sh k)))) : Int64) = lN ((Ba (rgN sh k)) * ((Gr (rgN sh k)) + (Sm (rgN sh k)))) from lN_mul (Ba (rgN sh k)) ((Gr (rgN sh k)) + (Sm (rgN sh k)))]
  refine lv_goto (tgt := 170) hx hb dX9_findTone_143 (by decide) ?_
  refine lv_lstore (lv' := [(5, .long (lN ((Ba (rgN sh k)) * ((Gr (rgN sh k)) + (Sm (rgN sh k)))))), (7, .long (lN (2 * (Gr (rgN sh k))))), (12, .long (lN (Gr (rgN sh k)))), (10, .long (lN (Sm (rgN sh k)))), (9, .int (nI (rgN sh k))), (4, .int (nI (seN sh Si k))), (3, .int 3), (0, .ref m0), (1, .int (nI k)), (2, .int 2)]) hx hb dX9_findTone_170 hl (by decide) rfl (fun ls hl => ?_)
  refine lv_iload_n hx hb dX9_findTone_172 rfl (lv_at hl 9 rfl) ?_
  refine lv_iconst (v := 1) hx hb dX9_findTone_173 (by decide) ?_
  refine lv_icmp_ne (tgt := 186) hx hb dX9_findTone_174 (by decide) (fun c_174 => ?_) (fun c_174 => by exfalso; revert c_174; decide)
  refine lv_iload_n hx hb dX9_findTone_186 rfl (lv_at hl 9 rfl) ?_
  refine lv_iconst (v := 2) hx hb dX9_findTone_187 (by decide) ?_
  refine lv_icmp_ne (tgt := 199) hx hb dX9_findTone_188 (by decide) (fun c_188 => by exfalso; revert c_188; decide) (fun c_188 => ?_)
  refine lv_lload hx hb dX9_findTone_191 (lv_at hl 0 rfl) ?_
  refine lv_lload hx hb dX9_findTone_193 (lv_at hl 1 rfl) ?_
  refine lv_lsub hx hb dX9_findTone_195 ?_
  rw [show ((lN ((Ba (rgN sh k)) * ((Gr (rgN sh k)) + (Sm (rgN sh k))))) - (lN (2 * (Gr (rgN sh k)))) : Int64) = lN (((Ba (rgN sh k)) * ((Gr (rgN sh k)) + (Sm (rgN sh k)))) - (2 * (Gr (rgN sh k)))) from lN_sub (a := ((Ba (rgN sh k)) * ((Gr (rgN sh k)) + (Sm (rgN sh k))))) (b := (2 * (Gr (rgN sh k)))) (by omega)]
  refine lv_goto (tgt := 201) hx hb dX9_findTone_196 (by decide) ?_
  refine lv_lstore (lv' := [(5, .long (lN (((Ba (rgN sh k)) * ((Gr (rgN sh k)) + (Sm (rgN sh k)))) - (2 * (Gr (rgN sh k)))))), (7, .long (lN (2 * (Gr (rgN sh k))))), (12, .long (lN (Gr (rgN sh k)))), (10, .long (lN (Sm (rgN sh k)))), (9, .int (nI (rgN sh k))), (4, .int (nI (seN sh Si k))), (3, .int 3), (0, .ref m0), (1, .int (nI k)), (2, .int 2)]) hx hb dX9_findTone_201 hl (by decide) rfl (fun ls hl => ?_)
  refine lv_aload_n hx hb dX9_findTone_203 rfl (lv_at hl 7 rfl) ?_
  refine lv_aload_n hx hb dX9_findTone_204 rfl (lv_at hl 7 rfl) ?_
  refine va_get (D := E.1) (ci := 9) (v := .ref rO) (C := RX9) (T := TX9) (N := 32) hx hb hts hinX9 hown hK hP 0 rfl rfl 1 (by decide) (hts (.fieldLink RX9 13 "WornRingsModel" "over" "[J") (by decide +kernel)) (fun _ h9 => h9) rfl dX9_findTone_205 ?_
  refine lv_iload hx hb dX9_findTone_208 (lv_at hl 5 rfl) ?_
  refine va_lald hx hb hK hP 1 2 rfl rfl (vp_in_nI (by omega) (by omega)) dX9_findTone_210 ?_
  rw [nI_clamp (n := seN sh Si k) (by omega)]
  refine W.eq (g2 := F0 m 211 ls [.long (lN (U (seN sh Si k))), .ref m0]) rfl ?_
  refine lv_lload hx hb dX9_findTone_211 (lv_at hl 0 rfl) ?_
  refine lv_lmul hx hb dX9_findTone_213 ?_
  rw [show ((lN (U (seN sh Si k))) * (lN (((Ba (rgN sh k)) * ((Gr (rgN sh k)) + (Sm (rgN sh k)))) - (2 * (Gr (rgN sh k))))) : Int64) = lN ((U (seN sh Si k)) * (((Ba (rgN sh k)) * ((Gr (rgN sh k)) + (Sm (rgN sh k)))) - (2 * (Gr (rgN sh k))))) from lN_mul (U (seN sh Si k)) (((Ba (rgN sh k)) * ((Gr (rgN sh k)) + (Sm (rgN sh k)))) - (2 * (Gr (rgN sh k))))]
  refine lv_aload_n hx hb dX9_findTone_214 rfl (lv_at hl 7 rfl) ?_
  refine va_get (D := E.1) (ci := 9) (v := .ref rU) (C := RX9) (T := TX9) (N := 32) hx hb hts hinX9 hown hK hP 0 rfl rfl 2 (by decide) (hts (.fieldLink RX9 17 "WornRingsModel" "under" "[J") (by decide +kernel)) (fun _ h9 => h9) rfl dX9_findTone_215 ?_
  refine lv_iload hx hb dX9_findTone_218 (lv_at hl 5 rfl) ?_
  refine va_lald hx hb hK hP 2 2 rfl rfl (vp_in_nI (by omega) (by omega)) dX9_findTone_220 ?_
  rw [nI_clamp (n := seN sh Si k) (by omega)]
  refine W.eq (g2 := F0 m 221 ls [.long (lN (V (seN sh Si k))), .long (lN ((U (seN sh Si k)) * (((Ba (rgN sh k)) * ((Gr (rgN sh k)) + (Sm (rgN sh k)))) - (2 * (Gr (rgN sh k)))))), .ref m0]) rfl ?_
  refine lv_lload hx hb dX9_findTone_221 (lv_at hl 1 rfl) ?_
  refine lv_lmul hx hb dX9_findTone_223 ?_
  rw [show ((lN (V (seN sh Si k))) * (lN (2 * (Gr (rgN sh k)))) : Int64) = lN ((V (seN sh Si k)) * (2 * (Gr (rgN sh k)))) from lN_mul (V (seN sh Si k)) (2 * (Gr (rgN sh k)))]
  refine wVv (wr := [(rO, .inl (E.2 2, 4, .inr (.inl (lA U)))), (rU, .inl (E.2 2, 4, .inr (.inl (lA V)))), (rT, .inl (E.2 1, 4, .inl (nA Te))), (rS, .inl (E.2 1, 8, .inl (nA Si))), (rB, .inl (E.2 1, 8, .inl (nA Ba))), (rP, .inl (E.2 1, 8, .inl (nA Sm))), (rG, .inl (E.2 1, 8, .inl (nA Gr)))]) hE ⟨hx, hb, hml, hown, hts⟩ (c_X9_reduce l E s.heap.size m0 (nI sh) rO rU rT (nI rg) rS rB rP rG ab0 be0 mk rM md rN rL rZ rE rI hc rA rX lnn rV rW sl rC rF rQ rK rR rD ((U (seN sh Si k)) * (((Ba (rgN sh k)) * ((Gr (rgN sh k)) + (Sm (rgN sh k)))) - (2 * (Gr (rgN sh k))))) ((V (seN sh Si k)) * (2 * (Gr (rgN sh k)))) (Nat.mul_pos hU1 (by omega)) (Nat.lt_of_le_of_lt (Nat.mul_le_mul hU2 (show _ ≤ 20000 by omega)) (by decide)) (Nat.mul_pos hV1 (by omega)) (Nat.lt_of_le_of_lt (Nat.mul_le_mul hV2 (show _ ≤ 20000 by omega)) (by decide))) (cwV 2 hts gX9_findTone_X9_reduce rfl rfl rfl (by decide +kernel) ⟨Nat.le_of_ble_eq_true rfl, Nat.le_of_ble_eq_true rfl⟩) hP hD hS hA [0] [1, 2, 3, 4, 5, 6, 7] rfl rfl (by decide) (by decide) (by decide) 0 9 rfl rfl rfl hl.1 rfl (Nat.le_of_ble_eq_true rfl) dX9_findTone_224 ⟨(Nat.zero_le _), (Nat.zero_le _)⟩ (fun u H locs hw hP hD hS => ?_)
  have hP : va_P E.1 vwCl [(rO, .inl (E.2 2, 4, .inr (.inl (lA U)))), (rU, .inl (E.2 2, 4, .inr (.inl (lA V)))), (rT, .inl (E.2 1, 4, .inl (nA Te))), (rS, .inl (E.2 1, 8, .inl (nA Si))), (rB, .inl (E.2 1, 8, .inl (nA Ba))), (rP, .inl (E.2 1, 8, .inl (nA Sm))), (rG, .inl (E.2 1, 8, .inl (nA Gr))), (m0, .inr (9, [.int (nI sh), .ref rO, .ref rU, .ref rT, .int (nI rg), .ref rS, .ref rB, .ref rP, .ref rG, .long (lN (tA ((U (seN sh Si k)) * (((Ba (rgN sh k)) * ((Gr (rgN sh k)) + (Sm (rgN sh k)))) - (2 * (Gr (rgN sh k))))) ((V (seN sh Si k)) * (2 * (Gr (rgN sh k)))))), .long (lN (tB ((U (seN sh Si k)) * (((Ba (rgN sh k)) * ((Gr (rgN sh k)) + (Sm (rgN sh k)))) - (2 * (Gr (rgN sh k))))) ((V (seN sh Si k)) * (2 * (Gr (rgN sh k)))))), .int mk, .ref rM, .int md, .ref rN, .ref rL, .ref rZ, .ref rE, .ref rI, .int hc, .ref rA, .ref rX, .int lnn, .ref rV, .ref rW, .int sl, .ref rC, .ref rF, .ref rQ, .ref rK, .ref rR, .ref rD]))] H := hP
  have hD : va_D A [(rO, .inl (E.2 2, 4, .inr (.inl (lA U)))), (rU, .inl (E.2 2, 4, .inr (.inl (lA V)))), (rT, .inl (E.2 1, 4, .inl (nA Te))), (rS, .inl (E.2 1, 8, .inl (nA Si))), (rB, .inl (E.2 1, 8, .inl (nA Ba))), (rP, .inl (E.2 1, 8, .inl (nA Sm))), (rG, .inl (E.2 1, 8, .inl (nA Gr))), (m0, .inr (9, [.int (nI sh), .ref rO, .ref rU, .ref rT, .int (nI rg), .ref rS, .ref rB, .ref rP, .ref rG, .long (lN (tA ((U (seN sh Si k)) * (((Ba (rgN sh k)) * ((Gr (rgN sh k)) + (Sm (rgN sh k)))) - (2 * (Gr (rgN sh k))))) ((V (seN sh Si k)) * (2 * (Gr (rgN sh k)))))), .long (lN (tB ((U (seN sh Si k)) * (((Ba (rgN sh k)) * ((Gr (rgN sh k)) + (Sm (rgN sh k)))) - (2 * (Gr (rgN sh k))))) ((V (seN sh Si k)) * (2 * (Gr (rgN sh k)))))), .int mk, .ref rM, .int md, .ref rN, .ref rL, .ref rZ, .ref rE, .ref rI, .int hc, .ref rA, .ref rX, .int lnn, .ref rV, .ref rW, .int sl, .ref rC, .ref rF, .ref rQ, .ref rK, .ref rR, .ref rD]))] := hD
  have e9 : ([(m0, .inr (9, [.int (nI sh), .ref rO, .ref rU, .ref rT, .int (nI rg), .ref rS, .ref rB, .ref rP, .ref rG, .long (lN (tA (U (seN sh Si k) * (Ba (rgN sh k) * (Gr (rgN sh k) + Sm (rgN sh k)) - 2 * Gr (rgN sh k))) (V (seN sh Si k) * (2 * Gr (rgN sh k))))), .long (lN (tB (U (seN sh Si k) * (Ba (rgN sh k) * (Gr (rgN sh k) + Sm (rgN sh k)) - 2 * Gr (rgN sh k))) (V (seN sh Si k) * (2 * Gr (rgN sh k))))), .int mk, .ref rM, .int md, .ref rN, .ref rL, .ref rZ, .ref rE, .ref rI, .int hc, .ref rA, .ref rX, .int lnn, .ref rV, .ref rW, .int sl, .ref rC, .ref rF, .ref rQ, .ref rK, .ref rR, .ref rD])), (rO, .inl (E.2 2, 4, .inr (.inl (lA U)))), (rU, .inl (E.2 2, 4, .inr (.inl (lA V)))), (rT, .inl (E.2 1, 4, .inl (nA Te))), (rS, .inl (E.2 1, 8, .inl (nA Si))), (rB, .inl (E.2 1, 8, .inl (nA Ba))), (rP, .inl (E.2 1, 8, .inl (nA Sm))), (rG, .inl (E.2 1, 8, .inl (nA Gr)))] : va_W) = [(m0, .inr (9, [.int (nI sh), .ref rO, .ref rU, .ref rT, .int (nI rg), .ref rS, .ref rB, .ref rP, .ref rG, .long (lN (tA ((U (seN sh Si k)) * (((Ba (rgN sh k)) * ((Gr (rgN sh k)) + (Sm (rgN sh k)))) - (2 * (Gr (rgN sh k))))) ((V (seN sh Si k)) * (2 * (Gr (rgN sh k)))))), .long (lN (tB ((U (seN sh Si k)) * (((Ba (rgN sh k)) * ((Gr (rgN sh k)) + (Sm (rgN sh k)))) - (2 * (Gr (rgN sh k))))) ((V (seN sh Si k)) * (2 * (Gr (rgN sh k)))))), .int mk, .ref rM, .int md, .ref rN, .ref rL, .ref rZ, .ref rE, .ref rI, .int hc, .ref rA, .ref rX, .int lnn, .ref rV, .ref rW, .int sl, .ref rC, .ref rF, .ref rQ, .ref rK, .ref rR, .ref rD])), (rO, .inl (E.2 2, 4, .inr (.inl (lA U)))), (rU, .inl (E.2 2, 4, .inr (.inl (lA V)))), (rT, .inl (E.2 1, 4, .inl (nA Te))), (rS, .inl (E.2 1, 8, .inl (nA Si))), (rB, .inl (E.2 1, 8, .inl (nA Ba))), (rP, .inl (E.2 1, 8, .inl (nA Sm))), (rG, .inl (E.2 1, 8, .inl (nA Gr)))] := by rfl
  have hP9 : va_P E.1 vwCl [(m0, .inr (9, [.int (nI sh), .ref rO, .ref rU, .ref rT, .int (nI rg), .ref rS, .ref rB, .ref rP, .ref rG, .long (lN (tA (U (seN sh Si k) * (Ba (rgN sh k) * (Gr (rgN sh k) + Sm (rgN sh k)) - 2 * Gr (rgN sh k))) (V (seN sh Si k) * (2 * Gr (rgN sh k))))), .long (lN (tB (U (seN sh Si k) * (Ba (rgN sh k) * (Gr (rgN sh k) + Sm (rgN sh k)) - 2 * Gr (rgN sh k))) (V (seN sh Si k) * (2 * Gr (rgN sh k))))), .int mk, .ref rM, .int md, .ref rN, .ref rL, .ref rZ, .ref rE, .ref rI, .int hc, .ref rA, .ref rX, .int lnn, .ref rV, .ref rW, .int sl, .ref rC, .ref rF, .ref rQ, .ref rK, .ref rR, .ref rD])), (rO, .inl (E.2 2, 4, .inr (.inl (lA U)))), (rU, .inl (E.2 2, 4, .inr (.inl (lA V)))), (rT, .inl (E.2 1, 4, .inl (nA Te))), (rS, .inl (E.2 1, 8, .inl (nA Si))), (rB, .inl (E.2 1, 8, .inl (nA Ba))), (rP, .inl (E.2 1, 8, .inl (nA Sm))), (rG, .inl (E.2 1, 8, .inl (nA Gr)))] H := by rw [e9]; exact hP.sub [7, 0, 1, 2, 3, 4, 5, 6] rfl
  have hD9 : va_D A [(m0, .inr (9, [.int (nI sh), .ref rO, .ref rU, .ref rT, .int (nI rg), .ref rS, .ref rB, .ref rP, .ref rG, .long (lN (tA (U (seN sh Si k) * (Ba (rgN sh k) * (Gr (rgN sh k) + Sm (rgN sh k)) - 2 * Gr (rgN sh k))) (V (seN sh Si k) * (2 * Gr (rgN sh k))))), .long (lN (tB (U (seN sh Si k) * (Ba (rgN sh k) * (Gr (rgN sh k) + Sm (rgN sh k)) - 2 * Gr (rgN sh k))) (V (seN sh Si k) * (2 * Gr (rgN sh k))))), .int mk, .ref rM, .int md, .ref rN, .ref rL, .ref rZ, .ref rE, .ref rI, .int hc, .ref rA, .ref rX, .int lnn, .ref rV, .ref rW, .int sl, .ref rC, .ref rF, .ref rQ, .ref rK, .ref rR, .ref rD])), (rO, .inl (E.2 2, 4, .inr (.inl (lA U)))), (rU, .inl (E.2 2, 4, .inr (.inl (lA V)))), (rT, .inl (E.2 1, 4, .inl (nA Te))), (rS, .inl (E.2 1, 8, .inl (nA Si))), (rB, .inl (E.2 1, 8, .inl (nA Ba))), (rP, .inl (E.2 1, 8, .inl (nA Sm))), (rG, .inl (E.2 1, 8, .inl (nA Gr)))] := by rw [e9]; exact hD.sub [7, 0, 1, 2, 3, 4, 5, 6] (by decide) rfl
  exact W.vret hx hb hr (fun t9 ht9 hW9 => ⟨⟨(), rfl, trivial, ⟨by rw [ht9]; exact hP9, hD9⟩⟩, hS.F ht9⟩) hS.2.2 dX9_findTone_227
set_option maxHeartbeats 1000000 in
set_option maxRecDepth 100000 in
theorem c_X9_findTone_4_0 (l : Launch) (E : EnvT) (sz : Nat) (m0 : Nat) (sh : Nat) (rO : Nat) (rU : Nat) (rT : Nat) (rg : Nat) (rS : Nat) (rB : Nat) (rP : Nat) (rG : Nat) (ab0 : Int64) (be0 : Int64) (mk : Int32) (rM : Nat) (md : Int32) (rN : Nat) (rL : Nat) (rZ : Nat) (rE : Nat) (rI : Nat) (hc : Int32) (rA : Nat) (rX : Nat) (lnn : Int32) (rV : Nat) (rW : Nat) (sl : Int32) (rC : Nat) (rF : Nat) (rQ : Nat) (rK : Nat) (rR : Nat) (rD : Nat) (U : Nat → Nat) (V : Nat → Nat) (Te : Nat → Nat) (Si : Nat → Nat) (Ba : Nat → Nat) (Sm : Nat → Nat) (Gr : Nat → Nat) (k : Nat) (hs1 : 1 ≤ sh) (hs4 : sh ≤ 4) (hr8 : rg ≤ 8) (hk : k < 2 * sh - 1 + 4 * rg) (hse : seN sh Si k < 4) (hU1 : 0 < U (seN sh Si k)) (hU2 : U (seN sh Si k) ≤ 8000000) (hV1 : 0 < V (seN sh Si k)) (hV2 : V (seN sh Si k) ≤ 8000000) (hkd : kdN sh k = 4) (hk2 : 2 * sh - 1 ≤ k) (hrr : rgN sh k < 8) (hb1 : 3 ≤ Ba (rgN sh k)) (hb2 : Ba (rgN sh k) ≤ 30) (hp1 : 1 ≤ Sm (rgN sh k)) (hpq : Sm (rgN sh k) < Gr (rgN sh k)) (hq2 : Gr (rgN sh k) ≤ 100) : Met l yX9_findTone wsX9_findTone ({ frames := 2, cells := 0, slots := 0, locals := 42 }) (va_Pc [.ref m0, .int (nI k), .int 0] (PW E [(m0, .inr (9, [.int (nI sh), .ref rO, .ref rU, .ref rT, .int (nI rg), .ref rS, .ref rB, .ref rP, .ref rG, .long ab0, .long be0, .int mk, .ref rM, .int md, .ref rN, .ref rL, .ref rZ, .ref rE, .ref rI, .int hc, .ref rA, .ref rX, .int lnn, .ref rV, .ref rW, .int sl, .ref rC, .ref rF, .ref rQ, .ref rK, .ref rR, .ref rD])), (rO, .inl (E.2 2, 4, .inr (.inl (lA U)))), (rU, .inl (E.2 2, 4, .inr (.inl (lA V)))), (rT, .inl (E.2 1, 4, .inl (nA Te))), (rS, .inl (E.2 1, 8, .inl (nA Si))), (rB, .inl (E.2 1, 8, .inl (nA Ba))), (rP, .inl (E.2 1, 8, .inl (nA Sm))), (rG, .inl (E.2 1, 8, .inl (nA Gr)))] sz)) (va_Qv (fun (uu : Unit) => True) (fun (uu : Unit) t => BW E (va_A [(m0, .inr (9, [.int (nI sh), .ref rO, .ref rU, .ref rT, .int (nI rg), .ref rS, .ref rB, .ref rP, .ref rG, .long ab0, .long be0, .int mk, .ref rM, .int md, .ref rN, .ref rL, .ref rZ, .ref rE, .ref rI, .int hc, .ref rA, .ref rX, .int lnn, .ref rV, .ref rW, .int sl, .ref rC, .ref rF, .ref rQ, .ref rK, .ref rR, .ref rD])), (rO, .inl (E.2 2, 4, .inr (.inl (lA U)))), (rU, .inl (E.2 2, 4, .inr (.inl (lA V)))), (rT, .inl (E.2 1, 4, .inl (nA Te))), (rS, .inl (E.2 1, 8, .inl (nA Si))), (rB, .inl (E.2 1, 8, .inl (nA Ba))), (rP, .inl (E.2 1, 8, .inl (nA Sm))), (rG, .inl (E.2 1, 8, .inl (nA Gr)))] sz) [(m0, .inr (9, [.int (nI sh), .ref rO, .ref rU, .ref rT, .int (nI rg), .ref rS, .ref rB, .ref rP, .ref rG, .long (lN (tA (U (seN sh Si k) * (Gr (rgN sh k) - Sm (rgN sh k))) (V (seN sh Si k) * (2 * Gr (rgN sh k))))), .long (lN (tB (U (seN sh Si k) * (Gr (rgN sh k) - Sm (rgN sh k))) (V (seN sh Si k) * (2 * Gr (rgN sh k))))), .int mk, .ref rM, .int md, .ref rN, .ref rL, .ref rZ, .ref rE, .ref rI, .int hc, .ref rA, .ref rX, .int lnn, .ref rV, .ref rW, .int sl, .ref rC, .ref rF, .ref rQ, .ref rK, .ref rR, .ref rD])), (rO, .inl (E.2 2, 4, .inr (.inl (lA U)))), (rU, .inl (E.2 2, 4, .inr (.inl (lA V)))), (rT, .inl (E.2 1, 4, .inl (nA Te))), (rS, .inl (E.2 1, 8, .inl (nA Si))), (rB, .inl (E.2 1, 8, .inl (nA Ba))), (rP, .inl (E.2 1, 8, .inl (nA Sm))), (rG, .inl (E.2 1, 8, .inl (nA Gr)))] t) (va_A [(m0, .inr (9, [.int (nI sh), .ref rO, .ref rU, .ref rT, .int (nI rg), .ref rS, .ref rB, .ref rP, .ref rG, .long ab0, .long be0, .int mk, .ref rM, .int md, .ref rN, .ref rL, .ref rZ, .ref rE, .ref rI, .int hc, .ref rA, .ref rX, .int lnn, .ref rV, .ref rW, .int sl, .ref rC, .ref rF, .ref rQ, .ref rK, .ref rR, .ref rD])), (rO, .inl (E.2 2, 4, .inr (.inl (lA U)))), (rU, .inl (E.2 2, 4, .inr (.inl (lA V)))), (rT, .inl (E.2 1, 4, .inl (nA Te))), (rS, .inl (E.2 1, 8, .inl (nA Si))), (rB, .inl (E.2 1, 8, .inl (nA Ba))), (rP, .inl (E.2 1, 8, .inl (nA Sm))), (rG, .inl (E.2 1, 8, .inl (nA Gr)))] sz)) 0 0 (va_A [(m0, .inr (9, [.int (nI sh), .ref rO, .ref rU, .ref rT, .int (nI rg), .ref rS, .ref rB, .ref rP, .ref rG, .long ab0, .long be0, .int mk, .ref rM, .int md, .ref rN, .ref rL, .ref rZ, .ref rE, .ref rI, .int hc, .ref rA, .ref rX, .int lnn, .ref rV, .ref rW, .int sl, .ref rC, .ref rF, .ref rQ, .ref rK, .ref rR, .ref rD])), (rO, .inl (E.2 2, 4, .inr (.inl (lA U)))), (rU, .inl (E.2 2, 4, .inr (.inl (lA V)))), (rT, .inl (E.2 1, 4, .inl (nA Te))), (rS, .inl (E.2 1, 8, .inl (nA Si))), (rB, .inl (E.2 1, 8, .inl (nA Ba))), (rP, .inl (E.2 1, 8, .inl (nA Sm))), (rG, .inl (E.2 1, 8, .inl (nA Gr)))] sz) := by
  refine Met.ofW (cc := cX9_findTone) (maxL := 14) (ret := none) (by decide +kernel) rfl ?_
  intro p e s m args below meth c s₁ B hml hv
  obtain ⟨rfl, hsz, hP, hE, hD0⟩ := hv
  have hx := B.exec
  have hb := B.bytes
  have hr := B.returns
  have hts := atoms_spec (ws := wsX9_findTone) B.pre
  have hown : s.vm.findClass RX9 = some m.cls := findClass_of_methodNamed B.named
  have hlocks := B.notSynchronized
  have hK := hE.1
  have hNN := hE.2.1
  have hinX9 : ∀ w ∈ wsX90, w ∈ wsX9_findTone := fun w h => List.mem_cons_of_mem _ (List.mem_append_right _ h)
  subst hsz
  have hD := hD0.self (sz := s.heap.size)
  generalize hAe : va_A [(m0, .inr (9, [.int (nI sh), .ref rO, .ref rU, .ref rT, .int (nI rg), .ref rS, .ref rB, .ref rP, .ref rG, .long ab0, .long be0, .int mk, .ref rM, .int md, .ref rN, .ref rL, .ref rZ, .ref rE, .ref rI, .int hc, .ref rA, .ref rX, .int lnn, .ref rV, .ref rW, .int sl, .ref rC, .ref rF, .ref rQ, .ref rK, .ref rR, .ref rD])), (rO, .inl (E.2 2, 4, .inr (.inl (lA U)))), (rU, .inl (E.2 2, 4, .inr (.inl (lA V)))), (rT, .inl (E.2 1, 4, .inl (nA Te))), (rS, .inl (E.2 1, 8, .inl (nA Si))), (rB, .inl (E.2 1, 8, .inl (nA Ba))), (rP, .inl (E.2 1, 8, .inl (nA Sm))), (rG, .inl (E.2 1, 8, .inl (nA Gr)))] s.heap.size = A at hD ⊢
  have hA : ∀ q : Nat, s.heap.size ≤ q → A q := fun q h => by rw [← hAe]; exact Or.inr h
  have hS : va_S A s.heap s.heap [] := va_S.rf
  have hl := lv_entry ([.ref m0, .int (nI k), .int 0]) (n := 14) (Nat.le_of_ble_eq_true rfl)
  rw [lg_entry_eq]
  generalize (lg_sl ([.ref m0, .int (nI k), .int 0]) ++ List.replicate (14 - (lg_sl ([.ref m0, .int (nI k), .int 0])).length) Slot.unset).toArray = ls at hl ⊢
  have hl : lv_has ls 14 [(0, .ref m0), (1, .int (nI k)), (2, .int 0)] := hl
  refine lv_aload_n hx hb dX9_findTone_0 rfl (lv_at hl 0 rfl) ?_
  refine lv_iload_n hx hb dX9_findTone_1 rfl (lv_at hl 1 rfl) ?_
  refine rVi hE ⟨hx, hb, hml, hown, hts⟩ (c_X9_kindOf l E m0 sh rO rU rT rg rS rB rP rG ab0 be0 mk rM md rN rL rZ rE rI hc rA rX lnn rV rW sl rC rF rQ rK rR rD k (hs1) (hs4) (hr8) (hk)) (cwV 1 hts gX9_findTone_X9_kindOf rfl rfl rfl (by decide +kernel) ⟨Nat.le_of_ble_eq_true rfl, Nat.le_of_ble_eq_true rfl⟩) (hP.sub [0] rfl) 0 9 rfl rfl rfl hl.1 rfl (Nat.le_of_ble_eq_true rfl) dX9_findTone_2 ⟨(Nat.zero_le _), (Nat.zero_le _)⟩ ?_
  rw [show (nI (kdN sh k) : Int32) = 4 from by rw [hkd]; rfl]
  refine lv_istore_n (lv' := [(3, .int 4), (0, .ref m0), (1, .int (nI k)), (2, .int 0)]) hx hb dX9_findTone_5 rfl hl (by decide) rfl (fun ls hl => ?_)
  refine lv_aload_n hx hb dX9_findTone_6 rfl (lv_at hl 1 rfl) ?_
  refine lv_iload_n hx hb dX9_findTone_7 rfl (lv_at hl 2 rfl) ?_
  refine rVi hE ⟨hx, hb, hml, hown, hts⟩ (c_X9_shaftOf l E m0 sh rO rU rT rg rS rB rP rG ab0 be0 mk rM md rN rL rZ rE rI hc rA rX lnn rV rW sl rC rF rQ rK rR rD Si k (hs1) (hs4) (hr8) (hk)) (cwV 1 hts gX9_findTone_X9_shaftOf rfl rfl rfl (by decide +kernel) ⟨Nat.le_of_ble_eq_true rfl, Nat.le_of_ble_eq_true rfl⟩) (hP.sub [0, 4] rfl) 0 9 rfl rfl rfl hl.1 rfl (Nat.le_of_ble_eq_true rfl) dX9_findTone_8 ⟨(Nat.zero_le _), (Nat.zero_le _)⟩ ?_
  refine lv_istore (lv' := [(4, .int (nI (seN sh Si k))), (3, .int 4), (0, .ref m0), (1, .int (nI k)), (2, .int 0)]) hx hb dX9_findTone_11 hl (by decide) rfl (fun ls hl => ?_)
  refine lv_iload_n hx hb dX9_findTone_13 rfl (lv_at hl 4 rfl) ?_
  refine lv_i2l (v := 0) hx hb dX9_findTone_14 (by decide) ?_
  refine lv_lconst (v := 1) hx hb dX9_findTone_15 (by decide) ?_
  refine lv_ladd hx hb dX9_findTone_16 ?_
  rw [show ((0 : Int64) + (1 : Int64) : Int64) = lN (1) from lN_add 0 1]
  refine lv_lstore (lv' := [(5, .long (lN (1))), (4, .int (nI (seN sh Si k))), (3, .int 4), (0, .ref m0), (1, .int (nI k)), (2, .int 0)]) hx hb dX9_findTone_17 hl (by decide) rfl (fun ls hl => ?_)
  refine lv_lconst (v := 1) hx hb dX9_findTone_19 (by decide) ?_
  refine lv_lstore (lv' := [(7, .long 1), (5, .long (lN (1))), (4, .int (nI (seN sh Si k))), (3, .int 4), (0, .ref m0), (1, .int (nI k)), (2, .int 0)]) hx hb dX9_findTone_20 hl (by decide) rfl (fun ls hl => ?_)
  refine lv_iload_n hx hb dX9_findTone_22 rfl (lv_at hl 3 rfl) ?_
  refine lv_iconst (v := 1) hx hb dX9_findTone_23 (by decide) ?_
  refine lv_icmp_ne (tgt := 45) hx hb dX9_findTone_24 (by decide) (fun c_24 => ?_) (fun c_24 => by exfalso; revert c_24; decide)
  refine lv_iload_n hx hb dX9_findTone_45 rfl (lv_at hl 3 rfl) ?_
  refine lv_iconst (v := 1) hx hb dX9_findTone_46 (by decide) ?_
  refine lv_icmp_le (tgt := 203) hx hb dX9_findTone_47 (by decide) (fun c_47 => by exfalso; revert c_47; decide) (fun c_47 => ?_)
  refine lv_aload_n hx hb dX9_findTone_50 rfl (lv_at hl 4 rfl) ?_
  refine lv_iload_n hx hb dX9_findTone_51 rfl (lv_at hl 5 rfl) ?_
  refine rVi hE ⟨hx, hb, hml, hown, hts⟩ (c_X9_ringOf l E m0 sh rO rU rT rg rS rB rP rG ab0 be0 mk rM md rN rL rZ rE rI hc rA rX lnn rV rW sl rC rF rQ rK rR rD k (hs1) (hs4) (hr8) (hk) (hk2)) (cwV 1 hts gX9_findTone_X9_ringOf rfl rfl rfl (by decide +kernel) ⟨Nat.le_of_ble_eq_true rfl, Nat.le_of_ble_eq_true rfl⟩) (hP.sub [0] rfl) 0 9 rfl rfl rfl hl.1 rfl (Nat.le_of_ble_eq_true rfl) dX9_findTone_52 ⟨(Nat.zero_le _), (Nat.zero_le _)⟩ ?_
  refine lv_istore (lv' := [(9, .int (nI (rgN sh k))), (7, .long 1), (5, .long (lN (1))), (4, .int (nI (seN sh Si k))), (3, .int 4), (0, .ref m0), (1, .int (nI k)), (2, .int 0)]) hx hb dX9_findTone_55 hl (by decide) rfl (fun ls hl => ?_)
  refine lv_aload_n hx hb dX9_findTone_57 rfl (lv_at hl 5 rfl) ?_
  refine va_get (D := E.1) (ci := 9) (v := .ref rP) (C := RX9) (T := TX9) (N := 32) hx hb hts hinX9 hown hK hP 0 rfl rfl 7 (by decide) (hts (.fieldLink RX9 30 "WornRingsModel" "small" "[I") (by decide +kernel)) (fun _ h9 => h9) rfl dX9_findTone_58 ?_
  refine lv_iload hx hb dX9_findTone_61 (lv_at hl 0 rfl) ?_
  refine va_iald hx hb hK hP 6 1 rfl rfl (vp_in_nI (by omega) (by omega)) dX9_findTone_63 ?_
  rw [nI_clamp (n := rgN sh k) (by omega)]
  refine W.eq (g2 := F0 m 64 ls [.int (nI (Sm (rgN sh k)))]) rfl ?_
  refine lv_i2l (v := lN (Sm (rgN sh k))) hx hb dX9_findTone_64 (nI_l (by omega)) ?_
  refine lv_lstore (lv' := [(10, .long (lN (Sm (rgN sh k)))), (9, .int (nI (rgN sh k))), (7, .long 1), (5, .long (lN (1))), (4, .int (nI (seN sh Si k))), (3, .int 4), (0, .ref m0), (1, .int (nI k)), (2, .int 0)]) hx hb dX9_findTone_65 hl (by decide) rfl (fun ls hl => ?_)
  refine lv_aload_n hx hb dX9_findTone_67 rfl (lv_at hl 6 rfl) ?_
  refine va_get (D := E.1) (ci := 9) (v := .ref rG) (C := RX9) (T := TX9) (N := 32) hx hb hts hinX9 hown hK hP 0 rfl rfl 8 (by decide) (hts (.fieldLink RX9 33 "WornRingsModel" "great" "[I") (by decide +kernel)) (fun _ h9 => h9) rfl dX9_findTone_68 ?_
  refine lv_iload hx hb dX9_findTone_71 (lv_at hl 1 rfl) ?_
  refine va_iald hx hb hK hP 7 1 rfl rfl (vp_in_nI (by omega) (by omega)) dX9_findTone_73 ?_
  rw [nI_clamp (n := rgN sh k) (by omega)]
  refine W.eq (g2 := F0 m 74 ls [.int (nI (Gr (rgN sh k)))]) rfl ?_
  refine lv_i2l (v := lN (Gr (rgN sh k))) hx hb dX9_findTone_74 (nI_l (by omega)) ?_
  refine lv_lstore (lv' := [(12, .long (lN (Gr (rgN sh k)))), (10, .long (lN (Sm (rgN sh k)))), (9, .int (nI (rgN sh k))), (7, .long 1), (5, .long (lN (1))), (4, .int (nI (seN sh Si k))), (3, .int 4), (0, .ref m0), (1, .int (nI k)), (2, .int 0)]) hx hb dX9_findTone_75 hl (by decide) rfl (fun ls hl => ?_)
  refine lv_iload_n hx hb dX9_findTone_77 rfl (lv_at hl 6 rfl) ?_
  refine lv_iconst (v := 5) hx hb dX9_findTone_78 (by decide) ?_
  refine lv_icmp_ne (tgt := 94) hx hb dX9_findTone_79 (by decide) (fun c_79 => ?_) (fun c_79 => by exfalso; revert c_79; decide)
  refine lv_ldc2 (v := 2) hx hb hown (hts (.constantLong RX9 140 (2)) (by decide +kernel)) dX9_findTone_94 ?_
  refine lv_lload hx hb dX9_findTone_97 (lv_at hl 0 rfl) ?_
  refine lv_lmul hx hb dX9_findTone_99 ?_
  rw [show ((2 : Int64) * (lN (Gr (rgN sh k))) : Int64) = lN (2 * (Gr (rgN sh k))) from lN_mul 2 (Gr (rgN sh k))]
  refine lv_lstore (lv' := [(7, .long (lN (2 * (Gr (rgN sh k))))), (12, .long (lN (Gr (rgN sh k)))), (10, .long (lN (Sm (rgN sh k)))), (9, .int (nI (rgN sh k))), (5, .long (lN (1))), (4, .int (nI (seN sh Si k))), (3, .int 4), (0, .ref m0), (1, .int (nI k)), (2, .int 0)]) hx hb dX9_findTone_100 hl (by decide) rfl (fun ls hl => ?_)
  refine lv_iload_n hx hb dX9_findTone_102 rfl (lv_at hl 6 rfl) ?_
  refine lv_iconst (v := 2) hx hb dX9_findTone_103 (by decide) ?_
  refine lv_icmp_ne (tgt := 124) hx hb dX9_findTone_104 (by decide) (fun c_104 => ?_) (fun c_104 => by exfalso; revert c_104; decide)
  refine lv_iload_n hx hb dX9_findTone_124 rfl (lv_at hl 6 rfl) ?_
  refine lv_iconst (v := 3) hx hb dX9_findTone_125 (by decide) ?_
  refine lv_icmp_ne (tgt := 146) hx hb dX9_findTone_126 (by decide) (fun c_126 => ?_) (fun c_126 => by exfalso; revert c_126; decide)
  refine lv_iload_n hx hb dX9_findTone_146 rfl (lv_at hl 6 rfl) ?_
  refine lv_iconst (v := 4) hx hb dX9_findTone_147 (by decide) ?_
  refine lv_icmp_ne (tgt := 159) hx hb dX9_findTone_148 (by decide) (fun c_148 => by exfalso; revert c_148; decide) (fun c_148 => ?_)
  refine lv_lload hx hb dX9_findTone_151 (lv_at hl 1 rfl) ?_
  refine lv_lload hx hb dX9_findTone_153 (lv_at hl 2 rfl) ?_
  refine lv_lsub hx hb dX9_findTone_155 ?_
  rw [show ((lN (Gr (rgN sh k))) - (lN (Sm (rgN sh k))) : Int64) = lN ((Gr (rgN sh k)) - (Sm (rgN sh k))) from lN_sub (a := (Gr (rgN sh k))) (b := (Sm (rgN sh k))) (by omega)]
  refine lv_goto (tgt := 170) hx hb dX9_findTone_156 (by decide) ?_
  refine lv_lstore (lv' := [(5, .long (lN ((Gr (rgN sh k)) - (Sm (rgN sh k))))), (7, .long (lN (2 * (Gr (rgN sh k))))), (12, .long (lN (Gr (rgN sh k)))), (10, .long (lN (Sm (rgN sh k)))), (9, .int (nI (rgN sh k))), (4, .int (nI (seN sh Si k))), (3, .int 4), (0, .ref m0), (1, .int (nI k)), (2, .int 0)]) hx hb dX9_findTone_170 hl (by decide) rfl (fun ls hl => ?_)
  refine lv_iload_n hx hb dX9_findTone_172 rfl (lv_at hl 9 rfl) ?_
  refine lv_iconst (v := 1) hx hb dX9_findTone_173 (by decide) ?_
  refine lv_icmp_ne (tgt := 186) hx hb dX9_findTone_174 (by decide) (fun c_174 => ?_) (fun c_174 => by exfalso; revert c_174; decide)
  refine lv_iload_n hx hb dX9_findTone_186 rfl (lv_at hl 9 rfl) ?_
  refine lv_iconst (v := 2) hx hb dX9_findTone_187 (by decide) ?_
  refine lv_icmp_ne (tgt := 199) hx hb dX9_findTone_188 (by decide) (fun c_188 => ?_) (fun c_188 => by exfalso; revert c_188; decide)
  refine lv_lload hx hb dX9_findTone_199 (lv_at hl 0 rfl) ?_
  refine lv_lstore (lv' := [(5, .long (lN ((Gr (rgN sh k)) - (Sm (rgN sh k))))), (7, .long (lN (2 * (Gr (rgN sh k))))), (12, .long (lN (Gr (rgN sh k)))), (10, .long (lN (Sm (rgN sh k)))), (9, .int (nI (rgN sh k))), (4, .int (nI (seN sh Si k))), (3, .int 4), (0, .ref m0), (1, .int (nI k)), (2, .int 0)]) hx hb dX9_findTone_201 hl (by decide) rfl (fun ls hl => ?_)
  refine lv_aload_n hx hb dX9_findTone_203 rfl (lv_at hl 7 rfl) ?_
  refine lv_aload_n hx hb dX9_findTone_204 rfl (lv_at hl 7 rfl) ?_
  refine va_get (D := E.1) (ci := 9) (v := .ref rO) (C := RX9) (T := TX9) (N := 32) hx hb hts hinX9 hown hK hP 0 rfl rfl 1 (by decide) (hts (.fieldLink RX9 13 "WornRingsModel" "over" "[J") (by decide +kernel)) (fun _ h9 => h9) rfl dX9_findTone_205 ?_
  refine lv_iload hx hb dX9_findTone_208 (lv_at hl 5 rfl) ?_
  refine va_lald hx hb hK hP 1 2 rfl rfl (vp_in_nI (by omega) (by omega)) dX9_findTone_210 ?_
  rw [nI_clamp (n := seN sh Si k) (by omega)]
  refine W.eq (g2 := F0 m 211 ls [.long (lN (U (seN sh Si k))), .ref m0]) rfl ?_
  refine lv_lload hx hb dX9_findTone_211 (lv_at hl 0 rfl) ?_
  refine lv_lmul hx hb dX9_findTone_213 ?_
  rw [show ((lN (U (seN sh Si k))) * (lN ((Gr (rgN sh k)) - (Sm (rgN sh k)))) : Int64) = lN ((U (seN sh Si k)) * ((Gr (rgN sh k)) - (Sm (rgN sh k)))) from lN_mul (U (seN sh Si k)) ((Gr (rgN sh k)) - (Sm (rgN sh k)))]
  refine lv_aload_n hx hb dX9_findTone_214 rfl (lv_at hl 7 rfl) ?_
  refine va_get (D := E.1) (ci := 9) (v := .ref rU) (C := RX9) (T := TX9) (N := 32) hx hb hts hinX9 hown hK hP 0 rfl rfl 2 (by decide) (hts (.fieldLink RX9 17 "WornRingsModel" "under" "[J") (by decide +kernel)) (fun _ h9 => h9) rfl dX9_findTone_215 ?_
  refine lv_iload hx hb dX9_findTone_218 (lv_at hl 5 rfl) ?_
  refine va_lald hx hb hK hP 2 2 rfl rfl (vp_in_nI (by omega) (by omega)) dX9_findTone_220 ?_
  rw [nI_clamp (n := seN sh Si k) (by omega)]
  refine W.eq (g2 := F0 m 221 ls [.long (lN (V (seN sh Si k))), .long (lN ((U (seN sh Si k)) * ((Gr (rgN sh k)) - (Sm (rgN sh k))))), .ref m0]) rfl ?_
  refine lv_lload hx hb dX9_findTone_221 (lv_at hl 1 rfl) ?_
  refine lv_lmul hx hb dX9_findTone_223 ?_
  rw [show ((lN (V (seN sh Si k))) * (lN (2 * (Gr (rgN sh k)))) : Int64) = lN ((V (seN sh Si k)) * (2 * (Gr (rgN sh k)))) from lN_mul (V (seN sh Si k)) (2 * (Gr (rgN sh k)))]
  refine wVv (wr := [(rO, .inl (E.2 2, 4, .inr (.inl (lA U)))), (rU, .inl (E.2 2, 4, .inr (.inl (lA V)))), (rT, .inl (E.2 1, 4, .inl (nA Te))), (rS, .inl (E.2 1, 8, .inl (nA Si))), (rB, .inl (E.2 1, 8, .inl (nA Ba))), (rP, .inl (E.2 1, 8, .inl (nA Sm))), (rG, .inl (E.2 1, 8, .inl (nA Gr)))]) hE ⟨hx, hb, hml, hown, hts⟩ (c_X9_reduce l E s.heap.size m0 (nI sh) rO rU rT (nI rg) rS rB rP rG ab0 be0 mk rM md rN rL rZ rE rI hc rA rX lnn rV rW sl rC rF rQ rK rR rD ((U (seN sh Si k)) * ((Gr (rgN sh k)) - (Sm (rgN sh k)))) ((V (seN sh Si k)) * (2 * (Gr (rgN sh k)))) (Nat.mul_pos hU1 (by omega)) (Nat.lt_of_le_of_lt (Nat.mul_le_mul hU2 (show _ ≤ 20000 by omega)) (by decide)) (Nat.mul_pos hV1 (by omega)) (Nat.lt_of_le_of_lt (Nat.mul_le_mul hV2 (show _ ≤ 20000 by omega)) (by decide))) (cwV 2 hts gX9_findTone_X9_reduce rfl rfl rfl (by decide +kernel) ⟨Nat.le_of_ble_eq_true rfl, Nat.le_of_ble_eq_true rfl⟩) hP hD hS hA [0] [1, 2, 3, 4, 5, 6, 7] rfl rfl (by decide) (by decide) (by decide) 0 9 rfl rfl rfl hl.1 rfl (Nat.le_of_ble_eq_true rfl) dX9_findTone_224 ⟨(Nat.zero_le _), (Nat.zero_le _)⟩ (fun u H locs hw hP hD hS => ?_)
  have hP : va_P E.1 vwCl [(rO, .inl (E.2 2, 4, .inr (.inl (lA U)))), (rU, .inl (E.2 2, 4, .inr (.inl (lA V)))), (rT, .inl (E.2 1, 4, .inl (nA Te))), (rS, .inl (E.2 1, 8, .inl (nA Si))), (rB, .inl (E.2 1, 8, .inl (nA Ba))), (rP, .inl (E.2 1, 8, .inl (nA Sm))), (rG, .inl (E.2 1, 8, .inl (nA Gr))), (m0, .inr (9, [.int (nI sh), .ref rO, .ref rU, .ref rT, .int (nI rg), .ref rS, .ref rB, .ref rP, .ref rG, .long (lN (tA ((U (seN sh Si k)) * ((Gr (rgN sh k)) - (Sm (rgN sh k)))) ((V (seN sh Si k)) * (2 * (Gr (rgN sh k)))))), .long (lN (tB ((U (seN sh Si k)) * ((Gr (rgN sh k)) - (Sm (rgN sh k)))) ((V (seN sh Si k)) * (2 * (Gr (rgN sh k)))))), .int mk, .ref rM, .int md, .ref rN, .ref rL, .ref rZ, .ref rE, .ref rI, .int hc, .ref rA, .ref rX, .int lnn, .ref rV, .ref rW, .int sl, .ref rC, .ref rF, .ref rQ, .ref rK, .ref rR, .ref rD]))] H := hP
  have hD : va_D A [(rO, .inl (E.2 2, 4, .inr (.inl (lA U)))), (rU, .inl (E.2 2, 4, .inr (.inl (lA V)))), (rT, .inl (E.2 1, 4, .inl (nA Te))), (rS, .inl (E.2 1, 8, .inl (nA Si))), (rB, .inl (E.2 1, 8, .inl (nA Ba))), (rP, .inl (E.2 1, 8, .inl (nA Sm))), (rG, .inl (E.2 1, 8, .inl (nA Gr))), (m0, .inr (9, [.int (nI sh), .ref rO, .ref rU, .ref rT, .int (nI rg), .ref rS, .ref rB, .ref rP, .ref rG, .long (lN (tA ((U (seN sh Si k)) * ((Gr (rgN sh k)) - (Sm (rgN sh k)))) ((V (seN sh Si k)) * (2 * (Gr (rgN sh k)))))), .long (lN (tB ((U (seN sh Si k)) * ((Gr (rgN sh k)) - (Sm (rgN sh k)))) ((V (seN sh Si k)) * (2 * (Gr (rgN sh k)))))), .int mk, .ref rM, .int md, .ref rN, .ref rL, .ref rZ, .ref rE, .ref rI, .int hc, .ref rA, .ref rX, .int lnn, .ref rV, .ref rW, .int sl, .ref rC, .ref rF, .ref rQ, .ref rK, .ref rR, .ref rD]))] := hD
  have e9 : ([(m0, .inr (9, [.int (nI sh), .ref rO, .ref rU, .ref rT, .int (nI rg), .ref rS, .ref rB, .ref rP, .ref rG, .long (lN (tA (U (seN sh Si k) * (Gr (rgN sh k) - Sm (rgN sh k))) (V (seN sh Si k) * (2 * Gr (rgN sh k))))), .long (lN (tB (U (seN sh Si k) * (Gr (rgN sh k) - Sm (rgN sh k))) (V (seN sh Si k) * (2 * Gr (rgN sh k))))), .int mk, .ref rM, .int md, .ref rN, .ref rL, .ref rZ, .ref rE, .ref rI, .int hc, .ref rA, .ref rX, .int lnn, .ref rV, .ref rW, .int sl, .ref rC, .ref rF, .ref rQ, .ref rK, .ref rR, .ref rD])), (rO, .inl (E.2 2, 4, .inr (.inl (lA U)))), (rU, .inl (E.2 2, 4, .inr (.inl (lA V)))), (rT, .inl (E.2 1, 4, .inl (nA Te))), (rS, .inl (E.2 1, 8, .inl (nA Si))), (rB, .inl (E.2 1, 8, .inl (nA Ba))), (rP, .inl (E.2 1, 8, .inl (nA Sm))), (rG, .inl (E.2 1, 8, .inl (nA Gr)))] : va_W) = [(m0, .inr (9, [.int (nI sh), .ref rO, .ref rU, .ref rT, .int (nI rg), .ref rS, .ref rB, .ref rP, .ref rG, .long (lN (tA ((U (seN sh Si k)) * ((Gr (rgN sh k)) - (Sm (rgN sh k)))) ((V (seN sh Si k)) * (2 * (Gr (rgN sh k)))))), .long (lN (tB ((U (seN sh Si k)) * ((Gr (rgN sh k)) - (Sm (rgN sh k)))) ((V (seN sh Si k)) * (2 * (Gr (rgN sh k)))))), .int mk, .ref rM, .int md, .ref rN, .ref rL, .ref rZ, .ref rE, .ref rI, .int hc, .ref rA, .ref rX, .int lnn, .ref rV, .ref rW, .int sl, .ref rC, .ref rF, .ref rQ, .ref rK, .ref rR, .ref rD])), (rO, .inl (E.2 2, 4, .inr (.inl (lA U)))), (rU, .inl (E.2 2, 4, .inr (.inl (lA V)))), (rT, .inl (E.2 1, 4, .inl (nA Te))), (rS, .inl (E.2 1, 8, .inl (nA Si))), (rB, .inl (E.2 1, 8, .inl (nA Ba))), (rP, .inl (E.2 1, 8, .inl (nA Sm))), (rG, .inl (E.2 1, 8, .inl (nA Gr)))] := by rfl
  have hP9 : va_P E.1 vwCl [(m0, .inr (9, [.int (nI sh), .ref rO, .ref rU, .ref rT, .int (nI rg), .ref rS, .ref rB, .ref rP, .ref rG, .long (lN (tA (U (seN sh Si k) * (Gr (rgN sh k) - Sm (rgN sh k))) (V (seN sh Si k) * (2 * Gr (rgN sh k))))), .long (lN (tB (U (seN sh Si k) * (Gr (rgN sh k) - Sm (rgN sh k))) (V (seN sh Si k) * (2 * Gr (rgN sh k))))), .int mk, .ref rM, .int md, .ref rN, .ref rL, .ref rZ, .ref rE, .ref rI, .int hc, .ref rA, .ref rX, .int lnn, .ref rV, .ref rW, .int sl, .ref rC, .ref rF, .ref rQ, .ref rK, .ref rR, .ref rD])), (rO, .inl (E.2 2, 4, .inr (.inl (lA U)))), (rU, .inl (E.2 2, 4, .inr (.inl (lA V)))), (rT, .inl (E.2 1, 4, .inl (nA Te))), (rS, .inl (E.2 1, 8, .inl (nA Si))), (rB, .inl (E.2 1, 8, .inl (nA Ba))), (rP, .inl (E.2 1, 8, .inl (nA Sm))), (rG, .inl (E.2 1, 8, .inl (nA Gr)))] H := by rw [e9]; exact hP.sub [7, 0, 1, 2, 3, 4, 5, 6] rfl
  have hD9 : va_D A [(m0, .inr (9, [.int (nI sh), .ref rO, .ref rU, .ref rT, .int (nI rg), .ref rS, .ref rB, .ref rP, .ref rG, .long (lN (tA (U (seN sh Si k) * (Gr (rgN sh k) - Sm (rgN sh k))) (V (seN sh Si k) * (2 * Gr (rgN sh k))))), .long (lN (tB (U (seN sh Si k) * (Gr (rgN sh k) - Sm (rgN sh k))) (V (seN sh Si k) * (2 * Gr (rgN sh k))))), .int mk, .ref rM, .int md, .ref rN, .ref rL, .ref rZ, .ref rE, .ref rI, .int hc, .ref rA, .ref rX, .int lnn, .ref rV, .ref rW, .int sl, .ref rC, .ref rF, .ref rQ, .ref rK, .ref rR, .ref rD])), (rO, .inl (E.2 2, 4, .inr (.inl (lA U)))), (rU, .inl (E.2 2, 4, .inr (.inl (lA V)))), (rT, .inl (E.2 1, 4, .inl (nA Te))), (rS, .inl (E.2 1, 8, .inl (nA Si))), (rB, .inl (E.2 1, 8, .inl (nA Ba))), (rP, .inl (E.2 1, 8, .inl (nA Sm))), (rG, .inl (E.2 1, 8, .inl (nA Gr)))] := by rw [e9]; exact hD.sub [7, 0, 1, 2, 3, 4, 5, 6] (by decide) rfl
  exact W.vret hx hb hr (fun t9 ht9 hW9 => ⟨⟨(), rfl, trivial, ⟨by rw [ht9]; exact hP9, hD9⟩⟩, hS.F ht9⟩) hS.2.2 dX9_findTone_227
set_option maxHeartbeats 1000000 in
set_option maxRecDepth 100000 in
theorem c_X9_findTone_5_0 (l : Launch) (E : EnvT) (sz : Nat) (m0 : Nat) (sh : Nat) (rO : Nat) (rU : Nat) (rT : Nat) (rg : Nat) (rS : Nat) (rB : Nat) (rP : Nat) (rG : Nat) (ab0 : Int64) (be0 : Int64) (mk : Int32) (rM : Nat) (md : Int32) (rN : Nat) (rL : Nat) (rZ : Nat) (rE : Nat) (rI : Nat) (hc : Int32) (rA : Nat) (rX : Nat) (lnn : Int32) (rV : Nat) (rW : Nat) (sl : Int32) (rC : Nat) (rF : Nat) (rQ : Nat) (rK : Nat) (rR : Nat) (rD : Nat) (U : Nat → Nat) (V : Nat → Nat) (Te : Nat → Nat) (Si : Nat → Nat) (Ba : Nat → Nat) (Sm : Nat → Nat) (Gr : Nat → Nat) (k : Nat) (hs1 : 1 ≤ sh) (hs4 : sh ≤ 4) (hr8 : rg ≤ 8) (hk : k < 2 * sh - 1 + 4 * rg) (hse : seN sh Si k < 4) (hU1 : 0 < U (seN sh Si k)) (hU2 : U (seN sh Si k) ≤ 8000000) (hV1 : 0 < V (seN sh Si k)) (hV2 : V (seN sh Si k) ≤ 8000000) (hkd : kdN sh k = 5) (hk2 : 2 * sh - 1 ≤ k) (hrr : rgN sh k < 8) (hb1 : 3 ≤ Ba (rgN sh k)) (hb2 : Ba (rgN sh k) ≤ 30) (hp1 : 1 ≤ Sm (rgN sh k)) (hpq : Sm (rgN sh k) < Gr (rgN sh k)) (hq2 : Gr (rgN sh k) ≤ 100) : Met l yX9_findTone wsX9_findTone ({ frames := 2, cells := 0, slots := 0, locals := 42 }) (va_Pc [.ref m0, .int (nI k), .int 0] (PW E [(m0, .inr (9, [.int (nI sh), .ref rO, .ref rU, .ref rT, .int (nI rg), .ref rS, .ref rB, .ref rP, .ref rG, .long ab0, .long be0, .int mk, .ref rM, .int md, .ref rN, .ref rL, .ref rZ, .ref rE, .ref rI, .int hc, .ref rA, .ref rX, .int lnn, .ref rV, .ref rW, .int sl, .ref rC, .ref rF, .ref rQ, .ref rK, .ref rR, .ref rD])), (rO, .inl (E.2 2, 4, .inr (.inl (lA U)))), (rU, .inl (E.2 2, 4, .inr (.inl (lA V)))), (rT, .inl (E.2 1, 4, .inl (nA Te))), (rS, .inl (E.2 1, 8, .inl (nA Si))), (rB, .inl (E.2 1, 8, .inl (nA Ba))), (rP, .inl (E.2 1, 8, .inl (nA Sm))), (rG, .inl (E.2 1, 8, .inl (nA Gr)))] sz)) (va_Qv (fun (uu : Unit) => True) (fun (uu : Unit) t => BW E (va_A [(m0, .inr (9, [.int (nI sh), .ref rO, .ref rU, .ref rT, .int (nI rg), .ref rS, .ref rB, .ref rP, .ref rG, .long ab0, .long be0, .int mk, .ref rM, .int md, .ref rN, .ref rL, .ref rZ, .ref rE, .ref rI, .int hc, .ref rA, .ref rX, .int lnn, .ref rV, .ref rW, .int sl, .ref rC, .ref rF, .ref rQ, .ref rK, .ref rR, .ref rD])), (rO, .inl (E.2 2, 4, .inr (.inl (lA U)))), (rU, .inl (E.2 2, 4, .inr (.inl (lA V)))), (rT, .inl (E.2 1, 4, .inl (nA Te))), (rS, .inl (E.2 1, 8, .inl (nA Si))), (rB, .inl (E.2 1, 8, .inl (nA Ba))), (rP, .inl (E.2 1, 8, .inl (nA Sm))), (rG, .inl (E.2 1, 8, .inl (nA Gr)))] sz) [(m0, .inr (9, [.int (nI sh), .ref rO, .ref rU, .ref rT, .int (nI rg), .ref rS, .ref rB, .ref rP, .ref rG, .long (lN (tA (U (seN sh Si k) * (Gr (rgN sh k) * Gr (rgN sh k) - Sm (rgN sh k) * Sm (rgN sh k))) (V (seN sh Si k) * (2 * Sm (rgN sh k) * Gr (rgN sh k))))), .long (lN (tB (U (seN sh Si k) * (Gr (rgN sh k) * Gr (rgN sh k) - Sm (rgN sh k) * Sm (rgN sh k))) (V (seN sh Si k) * (2 * Sm (rgN sh k) * Gr (rgN sh k))))), .int mk, .ref rM, .int md, .ref rN, .ref rL, .ref rZ, .ref rE, .ref rI, .int hc, .ref rA, .ref rX, .int lnn, .ref rV, .ref rW, .int sl, .ref rC, .ref rF, .ref rQ, .ref rK, .ref rR, .ref rD])), (rO, .inl (E.2 2, 4, .inr (.inl (lA U)))), (rU, .inl (E.2 2, 4, .inr (.inl (lA V)))), (rT, .inl (E.2 1, 4, .inl (nA Te))), (rS, .inl (E.2 1, 8, .inl (nA Si))), (rB, .inl (E.2 1, 8, .inl (nA Ba))), (rP, .inl (E.2 1, 8, .inl (nA Sm))), (rG, .inl (E.2 1, 8, .inl (nA Gr)))] t) (va_A [(m0, .inr (9, [.int (nI sh), .ref rO, .ref rU, .ref rT, .int (nI rg), .ref rS, .ref rB, .ref rP, .ref rG, .long ab0, .long be0, .int mk, .ref rM, .int md, .ref rN, .ref rL, .ref rZ, .ref rE, .ref rI, .int hc, .ref rA, .ref rX, .int lnn, .ref rV, .ref rW, .int sl, .ref rC, .ref rF, .ref rQ, .ref rK, .ref rR, .ref rD])), (rO, .inl (E.2 2, 4, .inr (.inl (lA U)))), (rU, .inl (E.2 2, 4, .inr (.inl (lA V)))), (rT, .inl (E.2 1, 4, .inl (nA Te))), (rS, .inl (E.2 1, 8, .inl (nA Si))), (rB, .inl (E.2 1, 8, .inl (nA Ba))), (rP, .inl (E.2 1, 8, .inl (nA Sm))), (rG, .inl (E.2 1, 8, .inl (nA Gr)))] sz)) 0 0 (va_A [(m0, .inr (9, [.int (nI sh), .ref rO, .ref rU, .ref rT, .int (nI rg), .ref rS, .ref rB, .ref rP, .ref rG, .long ab0, .long be0, .int mk, .ref rM, .int md, .ref rN, .ref rL, .ref rZ, .ref rE, .ref rI, .int hc, .ref rA, .ref rX, .int lnn, .ref rV, .ref rW, .int sl, .ref rC, .ref rF, .ref rQ, .ref rK, .ref rR, .ref rD])), (rO, .inl (E.2 2, 4, .inr (.inl (lA U)))), (rU, .inl (E.2 2, 4, .inr (.inl (lA V)))), (rT, .inl (E.2 1, 4, .inl (nA Te))), (rS, .inl (E.2 1, 8, .inl (nA Si))), (rB, .inl (E.2 1, 8, .inl (nA Ba))), (rP, .inl (E.2 1, 8, .inl (nA Sm))), (rG, .inl (E.2 1, 8, .inl (nA Gr)))] sz) := by
  refine Met.ofW (cc := cX9_findTone) (maxL := 14) (ret := none) (by decide +kernel) rfl ?_
  intro p e s m args below meth c s₁ B hml hv
  obtain ⟨rfl, hsz, hP, hE, hD0⟩ := hv
  have hx := B.exec
  have hb := B.bytes
  have hr := B.returns
  have hts := atoms_spec (ws := wsX9_findTone) B.pre
  have hown : s.vm.findClass RX9 = some m.cls := findClass_of_methodNamed B.named
  have hlocks := B.notSynchronized
  have hK := hE.1
  have hNN := hE.2.1
  have hinX9 : ∀ w ∈ wsX90, w ∈ wsX9_findTone := fun w h => List.mem_cons_of_mem _ (List.mem_append_right _ h)
  subst hsz
  have hD := hD0.self (sz := s.heap.size)
  generalize hAe : va_A [(m0, .inr (9, [.int (nI sh), .ref rO, .ref rU, .ref rT, .int (nI rg), .ref rS, .ref rB, .ref rP, .ref rG, .long ab0, .long be0, .int mk, .ref rM, .int md, .ref rN, .ref rL, .ref rZ, .ref rE, .ref rI, .int hc, .ref rA, .ref rX, .int lnn, .ref rV, .ref rW, .int sl, .ref rC, .ref rF, .ref rQ, .ref rK, .ref rR, .ref rD])), (rO, .inl (E.2 2, 4, .inr (.inl (lA U)))), (rU, .inl (E.2 2, 4, .inr (.inl (lA V)))), (rT, .inl (E.2 1, 4, .inl (nA Te))), (rS, .inl (E.2 1, 8, .inl (nA Si))), (rB, .inl (E.2 1, 8, .inl (nA Ba))), (rP, .inl (E.2 1, 8, .inl (nA Sm))), (rG, .inl (E.2 1, 8, .inl (nA Gr)))] s.heap.size = A at hD ⊢
  have hA : ∀ q : Nat, s.heap.size ≤ q → A q := fun q h => by rw [← hAe]; exact Or.inr h
  have hS : va_S A s.heap s.heap [] := va_S.rf
  have hl := lv_entry ([.ref m0, .int (nI k), .int 0]) (n := 14) (Nat.le_of_ble_eq_true rfl)
  rw [lg_entry_eq]
  generalize (lg_sl ([.ref m0, .int (nI k), .int 0]) ++ List.replicate (14 - (lg_sl ([.ref m0, .int (nI k), .int 0])).length) Slot.unset).toArray = ls at hl ⊢
  have hl : lv_has ls 14 [(0, .ref m0), (1, .int (nI k)), (2, .int 0)] := hl
  have g0 : Sm (rgN sh k) * Sm (rgN sh k) < Gr (rgN sh k) * Gr (rgN sh k) := Nat.lt_of_le_of_lt (Nat.mul_le_mul_left _ (Nat.le_of_lt hpq)) (Nat.mul_lt_mul_of_pos_right hpq (by omega))
  have g1 : Gr (rgN sh k) * Gr (rgN sh k) ≤ 100 * 100 := Nat.mul_le_mul hq2 hq2
  have g3 : 0 < 2 * Sm (rgN sh k) * Gr (rgN sh k) := Nat.mul_pos (by omega) (by omega)
  have g4 : 2 * Sm (rgN sh k) * Gr (rgN sh k) ≤ 200 * 100 := Nat.mul_le_mul (by omega) hq2
  refine lv_aload_n hx hb dX9_findTone_0 rfl (lv_at hl 0 rfl) ?_
  refine lv_iload_n hx hb dX9_findTone_1 rfl (lv_at hl 1 rfl) ?_
  refine rVi hE ⟨hx, hb, hml, hown, hts⟩ (c_X9_kindOf l E m0 sh rO rU rT rg rS rB rP rG ab0 be0 mk rM md rN rL rZ rE rI hc rA rX lnn rV rW sl rC rF rQ rK rR rD k (hs1) (hs4) (hr8) (hk)) (cwV 1 hts gX9_findTone_X9_kindOf rfl rfl rfl (by decide +kernel) ⟨Nat.le_of_ble_eq_true rfl, Nat.le_of_ble_eq_true rfl⟩) (hP.sub [0] rfl) 0 9 rfl rfl rfl hl.1 rfl (Nat.le_of_ble_eq_true rfl) dX9_findTone_2 ⟨(Nat.zero_le _), (Nat.zero_le _)⟩ ?_
  rw [show (nI (kdN sh k) : Int32) = 5 from by rw [hkd]; rfl]
  refine lv_istore_n (lv' := [(3, .int 5), (0, .ref m0), (1, .int (nI k)), (2, .int 0)]) hx hb dX9_findTone_5 rfl hl (by decide) rfl (fun ls hl => ?_)
  refine lv_aload_n hx hb dX9_findTone_6 rfl (lv_at hl 1 rfl) ?_
  refine lv_iload_n hx hb dX9_findTone_7 rfl (lv_at hl 2 rfl) ?_
  refine rVi hE ⟨hx, hb, hml, hown, hts⟩ (c_X9_shaftOf l E m0 sh rO rU rT rg rS rB rP rG ab0 be0 mk rM md rN rL rZ rE rI hc rA rX lnn rV rW sl rC rF rQ rK rR rD Si k (hs1) (hs4) (hr8) (hk)) (cwV 1 hts gX9_findTone_X9_shaftOf rfl rfl rfl (by decide +kernel) ⟨Nat.le_of_ble_eq_true rfl, Nat.le_of_ble_eq_true rfl⟩) (hP.sub [0, 4] rfl) 0 9 rfl rfl rfl hl.1 rfl (Nat.le_of_ble_eq_true rfl) dX9_findTone_8 ⟨(Nat.zero_le _), (Nat.zero_le _)⟩ ?_
  refine lv_istore (lv' := [(4, .int (nI (seN sh Si k))), (3, .int 5), (0, .ref m0), (1, .int (nI k)), (2, .int 0)]) hx hb dX9_findTone_11 hl (by decide) rfl (fun ls hl => ?_)
  refine lv_iload_n hx hb dX9_findTone_13 rfl (lv_at hl 4 rfl) ?_
  refine lv_i2l (v := 0) hx hb dX9_findTone_14 (by decide) ?_
  refine lv_lconst (v := 1) hx hb dX9_findTone_15 (by decide) ?_
  refine lv_ladd hx hb dX9_findTone_16 ?_
  rw [show ((0 : Int64) + (1 : Int64) : Int64) = lN (1) from lN_add 0 1]
  refine lv_lstore (lv' := [(5, .long (lN (1))), (4, .int (nI (seN sh Si k))), (3, .int 5), (0, .ref m0), (1, .int (nI k)), (2, .int 0)]) hx hb dX9_findTone_17 hl (by decide) rfl (fun ls hl => ?_)
  refine lv_lconst (v := 1) hx hb dX9_findTone_19 (by decide) ?_
  refine lv_lstore (lv' := [(7, .long 1), (5, .long (lN (1))), (4, .int (nI (seN sh Si k))), (3, .int 5), (0, .ref m0), (1, .int (nI k)), (2, .int 0)]) hx hb dX9_findTone_20 hl (by decide) rfl (fun ls hl => ?_)
  refine lv_iload_n hx hb dX9_findTone_22 rfl (lv_at hl 3 rfl) ?_
  refine lv_iconst (v := 1) hx hb dX9_findTone_23 (by decide) ?_
  refine lv_icmp_ne (tgt := 45) hx hb dX9_findTone_24 (by decide) (fun c_24 => ?_) (fun c_24 => by exfalso; revert c_24; decide)
  refine lv_iload_n hx hb dX9_findTone_45 rfl (lv_at hl 3 rfl) ?_
  refine lv_iconst (v := 1) hx hb dX9_findTone_46 (by decide) ?_
  refine lv_icmp_le (tgt := 203) hx hb dX9_findTone_47 (by decide) (fun c_47 => by exfalso; revert c_47; decide) (fun c_47 => ?_)
  refine lv_aload_n hx hb dX9_findTone_50 rfl (lv_at hl 4 rfl) ?_
  refine lv_iload_n hx hb dX9_findTone_51 rfl (lv_at hl 5 rfl) ?_
  refine rVi hE ⟨hx, hb, hml, hown, hts⟩ (c_X9_ringOf l E m0 sh rO rU rT rg rS rB rP rG ab0 be0 mk rM md rN rL rZ rE rI hc rA rX lnn rV rW sl rC rF rQ rK rR rD k (hs1) (hs4) (hr8) (hk) (hk2)) (cwV 1 hts gX9_findTone_X9_ringOf rfl rfl rfl (by decide +kernel) ⟨Nat.le_of_ble_eq_true rfl, Nat.le_of_ble_eq_true rfl⟩) (hP.sub [0] rfl) 0 9 rfl rfl rfl hl.1 rfl (Nat.le_of_ble_eq_true rfl) dX9_findTone_52 ⟨(Nat.zero_le _), (Nat.zero_le _)⟩ ?_
  refine lv_istore (lv' := [(9, .int (nI (rgN sh k))), (7, .long 1), (5, .long (lN (1))), (4, .int (nI (seN sh Si k))), (3, .int 5), (0, .ref m0), (1, .int (nI k)), (2, .int 0)]) hx hb dX9_findTone_55 hl (by decide) rfl (fun ls hl => ?_)
  refine lv_aload_n hx hb dX9_findTone_57 rfl (lv_at hl 5 rfl) ?_
  refine va_get (D := E.1) (ci := 9) (v := .ref rP) (C := RX9) (T := TX9) (N := 32) hx hb hts hinX9 hown hK hP 0 rfl rfl 7 (by decide) (hts (.fieldLink RX9 30 "WornRingsModel" "small" "[I") (by decide +kernel)) (fun _ h9 => h9) rfl dX9_findTone_58 ?_
  refine lv_iload hx hb dX9_findTone_61 (lv_at hl 0 rfl) ?_
  refine va_iald hx hb hK hP 6 1 rfl rfl (vp_in_nI (by omega) (by omega)) dX9_findTone_63 ?_
  rw [nI_clamp (n := rgN sh k) (by omega)]
  refine W.eq (g2 := F0 m 64 ls [.int (nI (Sm (rgN sh k)))]) rfl ?_
  refine lv_i2l (v := lN (Sm (rgN sh k))) hx hb dX9_findTone_64 (nI_l (by omega)) ?_
  refine lv_lstore (lv' := [(10, .long (lN (Sm (rgN sh k)))), (9, .int (nI (rgN sh k))), (7, .long 1), (5, .long (lN (1))), (4, .int (nI (seN sh Si k))), (3, .int 5), (0, .ref m0), (1, .int (nI k)), (2, .int 0)]) hx hb dX9_findTone_65 hl (by decide) rfl (fun ls hl => ?_)
  refine lv_aload_n hx hb dX9_findTone_67 rfl (lv_at hl 6 rfl) ?_
  refine va_get (D := E.1) (ci := 9) (v := .ref rG) (C := RX9) (T := TX9) (N := 32) hx hb hts hinX9 hown hK hP 0 rfl rfl 8 (by decide) (hts (.fieldLink RX9 33 "WornRingsModel" "great" "[I") (by decide +kernel)) (fun _ h9 => h9) rfl dX9_findTone_68 ?_
  refine lv_iload hx hb dX9_findTone_71 (lv_at hl 1 rfl) ?_
  refine va_iald hx hb hK hP 7 1 rfl rfl (vp_in_nI (by omega) (by omega)) dX9_findTone_73 ?_
  rw [nI_clamp (n := rgN sh k) (by omega)]
  refine W.eq (g2 := F0 m 74 ls [.int (nI (Gr (rgN sh k)))]) rfl ?_
  refine lv_i2l (v := lN (Gr (rgN sh k))) hx hb dX9_findTone_74 (nI_l (by omega)) ?_
  refine lv_lstore (lv' := [(12, .long (lN (Gr (rgN sh k)))), (10, .long (lN (Sm (rgN sh k)))), (9, .int (nI (rgN sh k))), (7, .long 1), (5, .long (lN (1))), (4, .int (nI (seN sh Si k))), (3, .int 5), (0, .ref m0), (1, .int (nI k)), (2, .int 0)]) hx hb dX9_findTone_75 hl (by decide) rfl (fun ls hl => ?_)
  refine lv_iload_n hx hb dX9_findTone_77 rfl (lv_at hl 6 rfl) ?_
  refine lv_iconst (v := 5) hx hb dX9_findTone_78 (by decide) ?_
  refine lv_icmp_ne (tgt := 94) hx hb dX9_findTone_79 (by decide) (fun c_79 => by exfalso; revert c_79; decide) (fun c_79 => ?_)
  refine lv_ldc2 (v := 2) hx hb hown (hts (.constantLong RX9 140 (2)) (by decide +kernel)) dX9_findTone_82 ?_
  refine lv_lload hx hb dX9_findTone_85 (lv_at hl 1 rfl) ?_
  refine lv_lmul hx hb dX9_findTone_87 ?_
  rw [show ((2 : Int64) * (lN (Sm (rgN sh k))) : Int64) = lN (2 * (Sm (rgN sh k))) from lN_mul 2 (Sm (rgN sh k))]
  refine lv_lload hx hb dX9_findTone_88 (lv_at hl 0 rfl) ?_
  refine lv_lmul hx hb dX9_findTone_90 ?_
  rw [show ((lN (2 * (Sm (rgN sh k)))) * (lN (Gr (rgN sh k))) : Int64) = lN ((2 * (Sm (rgN sh k))) * (Gr (rgN sh k))) from lN_mul (2 * (Sm (rgN sh k))) (Gr (rgN sh k))]
  refine lv_goto (tgt := 100) hx hb dX9_findTone_91 (by decide) ?_
  refine lv_lstore (lv' := [(7, .long (lN ((2 * (Sm (rgN sh k))) * (Gr (rgN sh k))))), (12, .long (lN (Gr (rgN sh k)))), (10, .long (lN (Sm (rgN sh k)))), (9, .int (nI (rgN sh k))), (5, .long (lN (1))), (4, .int (nI (seN sh Si k))), (3, .int 5), (0, .ref m0), (1, .int (nI k)), (2, .int 0)]) hx hb dX9_findTone_100 hl (by decide) rfl (fun ls hl => ?_)
  refine lv_iload_n hx hb dX9_findTone_102 rfl (lv_at hl 6 rfl) ?_
  refine lv_iconst (v := 2) hx hb dX9_findTone_103 (by decide) ?_
  refine lv_icmp_ne (tgt := 124) hx hb dX9_findTone_104 (by decide) (fun c_104 => ?_) (fun c_104 => by exfalso; revert c_104; decide)
  refine lv_iload_n hx hb dX9_findTone_124 rfl (lv_at hl 6 rfl) ?_
  refine lv_iconst (v := 3) hx hb dX9_findTone_125 (by decide) ?_
  refine lv_icmp_ne (tgt := 146) hx hb dX9_findTone_126 (by decide) (fun c_126 => ?_) (fun c_126 => by exfalso; revert c_126; decide)
  refine lv_iload_n hx hb dX9_findTone_146 rfl (lv_at hl 6 rfl) ?_
  refine lv_iconst (v := 4) hx hb dX9_findTone_147 (by decide) ?_
  refine lv_icmp_ne (tgt := 159) hx hb dX9_findTone_148 (by decide) (fun c_148 => ?_) (fun c_148 => by exfalso; revert c_148; decide)
  refine lv_lload hx hb dX9_findTone_159 (lv_at hl 1 rfl) ?_
  refine lv_lload hx hb dX9_findTone_161 (lv_at hl 1 rfl) ?_
  refine lv_lmul hx hb dX9_findTone_163 ?_
  rw [show ((lN (Gr (rgN sh k))) * (lN (Gr (rgN sh k))) : Int64) = lN ((Gr (rgN sh k)) * (Gr (rgN sh k))) from lN_mul (Gr (rgN sh k)) (Gr (rgN sh k))]
  refine lv_lload hx hb dX9_findTone_164 (lv_at hl 2 rfl) ?_
  refine lv_lload hx hb dX9_findTone_166 (lv_at hl 2 rfl) ?_
  refine lv_lmul hx hb dX9_findTone_168 ?_
  rw [show ((lN (Sm (rgN sh k))) * (lN (Sm (rgN sh k))) : Int64) = lN ((Sm (rgN sh k)) * (Sm (rgN sh k))) from lN_mul (Sm (rgN sh k)) (Sm (rgN sh k))]
  refine lv_lsub hx hb dX9_findTone_169 ?_
  rw [show ((lN ((Gr (rgN sh k)) * (Gr (rgN sh k)))) - (lN ((Sm (rgN sh k)) * (Sm (rgN sh k)))) : Int64) = lN (((Gr (rgN sh k)) * (Gr (rgN sh k))) - ((Sm (rgN sh k)) * (Sm (rgN sh k)))) from lN_sub (a := ((Gr (rgN sh k)) * (Gr (rgN sh k)))) (b := ((Sm (rgN sh k)) * (Sm (rgN sh k)))) (by omega)]
  refine lv_lstore (lv' := [(5, .long (lN (((Gr (rgN sh k)) * (Gr (rgN sh k))) - ((Sm (rgN sh k)) * (Sm (rgN sh k)))))), (7, .long (lN ((2 * (Sm (rgN sh k))) * (Gr (rgN sh k))))), (12, .long (lN (Gr (rgN sh k)))), (10, .long (lN (Sm (rgN sh k)))), (9, .int (nI (rgN sh k))), (4, .int (nI (seN sh Si k))), (3, .int 5), (0, .ref m0), (1, .int (nI k)), (2, .int 0)]) hx hb dX9_findTone_170 hl (by decide) rfl (fun ls hl => ?_)
  refine lv_iload_n hx hb dX9_findTone_172 rfl (lv_at hl 9 rfl) ?_
  refine lv_iconst (v := 1) hx hb dX9_findTone_173 (by decide) ?_
  refine lv_icmp_ne (tgt := 186) hx hb dX9_findTone_174 (by decide) (fun c_174 => ?_) (fun c_174 => by exfalso; revert c_174; decide)
  refine lv_iload_n hx hb dX9_findTone_186 rfl (lv_at hl 9 rfl) ?_
  refine lv_iconst (v := 2) hx hb dX9_findTone_187 (by decide) ?_
  refine lv_icmp_ne (tgt := 199) hx hb dX9_findTone_188 (by decide) (fun c_188 => ?_) (fun c_188 => by exfalso; revert c_188; decide)
  refine lv_lload hx hb dX9_findTone_199 (lv_at hl 0 rfl) ?_
  refine lv_lstore (lv' := [(5, .long (lN (((Gr (rgN sh k)) * (Gr (rgN sh k))) - ((Sm (rgN sh k)) * (Sm (rgN sh k)))))), (7, .long (lN ((2 * (Sm (rgN sh k))) * (Gr (rgN sh k))))), (12, .long (lN (Gr (rgN sh k)))), (10, .long (lN (Sm (rgN sh k)))), (9, .int (nI (rgN sh k))), (4, .int (nI (seN sh Si k))), (3, .int 5), (0, .ref m0), (1, .int (nI k)), (2, .int 0)]) hx hb dX9_findTone_201 hl (by decide) rfl (fun ls hl => ?_)
  refine lv_aload_n hx hb dX9_findTone_203 rfl (lv_at hl 7 rfl) ?_
  refine lv_aload_n hx hb dX9_findTone_204 rfl (lv_at hl 7 rfl) ?_
  refine va_get (D := E.1) (ci := 9) (v := .ref rO) (C := RX9) (T := TX9) (N := 32) hx hb hts hinX9 hown hK hP 0 rfl rfl 1 (by decide) (hts (.fieldLink RX9 13 "WornRingsModel" "over" "[J") (by decide +kernel)) (fun _ h9 => h9) rfl dX9_findTone_205 ?_
  refine lv_iload hx hb dX9_findTone_208 (lv_at hl 5 rfl) ?_
  refine va_lald hx hb hK hP 1 2 rfl rfl (vp_in_nI (by omega) (by omega)) dX9_findTone_210 ?_
  rw [nI_clamp (n := seN sh Si k) (by omega)]
  refine W.eq (g2 := F0 m 211 ls [.long (lN (U (seN sh Si k))), .ref m0]) rfl ?_
  refine lv_lload hx hb dX9_findTone_211 (lv_at hl 0 rfl) ?_
  refine lv_lmul hx hb dX9_findTone_213 ?_
  rw [show ((lN (U (seN sh Si k))) * (lN (((Gr (rgN sh k)) * (Gr (rgN sh k))) - ((Sm (rgN sh k)) * (Sm (rgN sh k))))) : Int64) = lN ((U (seN sh Si k)) * (((Gr (rgN sh k)) * (Gr (rgN sh k))) - ((Sm (rgN sh k)) * (Sm (rgN sh k))))) from lN_mul (U (seN sh Si k)) (((Gr (rgN sh k)) * (Gr (rgN sh k))) - ((Sm (rgN sh k)) * (Sm (rgN sh k))))]
  refine lv_aload_n hx hb dX9_findTone_214 rfl (lv_at hl 7 rfl) ?_
  refine va_get (D := E.1) (ci := 9) (v := .ref rU) (C := RX9) (T := TX9) (N := 32) hx hb hts hinX9 hown hK hP 0 rfl rfl 2 (by decide) (hts (.fieldLink RX9 17 "WornRingsModel" "under" "[J") (by decide +kernel)) (fun _ h9 => h9) rfl dX9_findTone_215 ?_
  refine lv_iload hx hb dX9_findTone_218 (lv_at hl 5 rfl) ?_
  refine va_lald hx hb hK hP 2 2 rfl rfl (vp_in_nI (by omega) (by omega)) dX9_findTone_220 ?_
  rw [nI_clamp (n := seN sh Si k) (by omega)]
  refine W.eq (g2 := F0 m 221 ls [.long (lN (V (seN sh Si k))), .long (lN ((U (seN sh Si k)) * (((Gr (rgN sh k)) * (Gr (rgN sh k))) - ((Sm (rgN sh k)) * (Sm (rgN sh k)))))), .ref m0]) rfl ?_
  refine lv_lload hx hb dX9_findTone_221 (lv_at hl 1 rfl) ?_
  refine lv_lmul hx hb dX9_findTone_223 ?_
  rw [show ((lN (V (seN sh Si k))) * (lN ((2 * (Sm (rgN sh k))) * (Gr (rgN sh k)))) : Int64) = lN ((V (seN sh Si k)) * ((2 * (Sm (rgN sh k))) * (Gr (rgN sh k)))) from lN_mul (V (seN sh Si k)) ((2 * (Sm (rgN sh k))) * (Gr (rgN sh k)))]
  refine wVv (wr := [(rO, .inl (E.2 2, 4, .inr (.inl (lA U)))), (rU, .inl (E.2 2, 4, .inr (.inl (lA V)))), (rT, .inl (E.2 1, 4, .inl (nA Te))), (rS, .inl (E.2 1, 8, .inl (nA Si))), (rB, .inl (E.2 1, 8, .inl (nA Ba))), (rP, .inl (E.2 1, 8, .inl (nA Sm))), (rG, .inl (E.2 1, 8, .inl (nA Gr)))]) hE ⟨hx, hb, hml, hown, hts⟩ (c_X9_reduce l E s.heap.size m0 (nI sh) rO rU rT (nI rg) rS rB rP rG ab0 be0 mk rM md rN rL rZ rE rI hc rA rX lnn rV rW sl rC rF rQ rK rR rD ((U (seN sh Si k)) * (((Gr (rgN sh k)) * (Gr (rgN sh k))) - ((Sm (rgN sh k)) * (Sm (rgN sh k))))) ((V (seN sh Si k)) * ((2 * (Sm (rgN sh k))) * (Gr (rgN sh k)))) (Nat.mul_pos hU1 (by omega)) (Nat.lt_of_le_of_lt (Nat.mul_le_mul hU2 (show _ ≤ 20000 by omega)) (by decide)) (Nat.mul_pos hV1 (by omega)) (Nat.lt_of_le_of_lt (Nat.mul_le_mul hV2 (show _ ≤ 20000 by omega)) (by decide))) (cwV 2 hts gX9_findTone_X9_reduce rfl rfl rfl (by decide +kernel) ⟨Nat.le_of_ble_eq_true rfl, Nat.le_of_ble_eq_true rfl⟩) hP hD hS hA [0] [1, 2, 3, 4, 5, 6, 7] rfl rfl (by decide) (by decide) (by decide) 0 9 rfl rfl rfl hl.1 rfl (Nat.le_of_ble_eq_true rfl) dX9_findTone_224 ⟨(Nat.zero_le _), (Nat.zero_le _)⟩ (fun u H locs hw hP hD hS => ?_)
  have hP : va_P E.1 vwCl [(rO, .inl (E.2 2, 4, .inr (.inl (lA U)))), (rU, .inl (E.2 2, 4, .inr (.inl (lA V)))), (rT, .inl (E.2 1, 4, .inl (nA Te))), (rS, .inl (E.2 1, 8, .inl (nA Si))), (rB, .inl (E.2 1, 8, .inl (nA Ba))), (rP, .inl (E.2 1, 8, .inl (nA Sm))), (rG, .inl (E.2 1, 8, .inl (nA Gr))), (m0, .inr (9, [.int (nI sh), .ref rO, .ref rU, .ref rT, .int (nI rg), .ref rS, .ref rB, .ref rP, .ref rG, .long (lN (tA ((U (seN sh Si k)) * (((Gr (rgN sh k)) * (Gr (rgN sh k))) - ((Sm (rgN sh k)) * (Sm (rgN sh k))))) ((V (seN sh Si k)) * ((2 * (Sm (rgN sh k))) * (Gr (rgN sh k)))))), .long (lN (tB ((U (seN sh Si k)) * (((Gr (rgN sh k)) * (Gr (rgN sh k))) - ((Sm (rgN sh k)) * (Sm (rgN sh k))))) ((V (seN sh Si k)) * ((2 * (Sm (rgN sh k))) * (Gr (rgN sh k)))))), .int mk, .ref rM, .int md, .ref rN, .ref rL, .ref rZ, .ref rE, .ref rI, .int hc, .ref rA, .ref rX, .int lnn, .ref rV, .ref rW, .int sl, .ref rC, .ref rF, .ref rQ, .ref rK, .ref rR, .ref rD]))] H := hP
  have hD : va_D A [(rO, .inl (E.2 2, 4, .inr (.inl (lA U)))), (rU, .inl (E.2 2, 4, .inr (.inl (lA V)))), (rT, .inl (E.2 1, 4, .inl (nA Te))), (rS, .inl (E.2 1, 8, .inl (nA Si))), (rB, .inl (E.2 1, 8, .inl (nA Ba))), (rP, .inl (E.2 1, 8, .inl (nA Sm))), (rG, .inl (E.2 1, 8, .inl (nA Gr))), (m0, .inr (9, [.int (nI sh), .ref rO, .ref rU, .ref rT, .int (nI rg), .ref rS, .ref rB, .ref rP, .ref rG, .long (lN (tA ((U (seN sh Si k)) * (((Gr (rgN sh k)) * (Gr (rgN sh k))) - ((Sm (rgN sh k)) * (Sm (rgN sh k))))) ((V (seN sh Si k)) * ((2 * (Sm (rgN sh k))) * (Gr (rgN sh k)))))), .long (lN (tB ((U (seN sh Si k)) * (((Gr (rgN sh k)) * (Gr (rgN sh k))) - ((Sm (rgN sh k)) * (Sm (rgN sh k))))) ((V (seN sh Si k)) * ((2 * (Sm (rgN sh k))) * (Gr (rgN sh k)))))), .int mk, .ref rM, .int md, .ref rN, .ref rL, .ref rZ, .ref rE, .ref rI, .int hc, .ref rA, .ref rX, .int lnn, .ref rV, .ref rW, .int sl, .ref rC, .ref rF, .ref rQ, .ref rK, .ref rR, .ref rD]))] := hD
  have e9 : ([(m0, .inr (9, [.int (nI sh), .ref rO, .ref rU, .ref rT, .int (nI rg), .ref rS, .ref rB, .ref rP, .ref rG, .long (lN (tA (U (seN sh Si k) * (Gr (rgN sh k) * Gr (rgN sh k) - Sm (rgN sh k) * Sm (rgN sh k))) (V (seN sh Si k) * (2 * Sm (rgN sh k) * Gr (rgN sh k))))), .long (lN (tB (U (seN sh Si k) * (Gr (rgN sh k) * Gr (rgN sh k) - Sm (rgN sh k) * Sm (rgN sh k))) (V (seN sh Si k) * (2 * Sm (rgN sh k) * Gr (rgN sh k))))), .int mk, .ref rM, .int md, .ref rN, .ref rL, .ref rZ, .ref rE, .ref rI, .int hc, .ref rA, .ref rX, .int lnn, .ref rV, .ref rW, .int sl, .ref rC, .ref rF, .ref rQ, .ref rK, .ref rR, .ref rD])), (rO, .inl (E.2 2, 4, .inr (.inl (lA U)))), (rU, .inl (E.2 2, 4, .inr (.inl (lA V)))), (rT, .inl (E.2 1, 4, .inl (nA Te))), (rS, .inl (E.2 1, 8, .inl (nA Si))), (rB, .inl (E.2 1, 8, .inl (nA Ba))), (rP, .inl (E.2 1, 8, .inl (nA Sm))), (rG, .inl (E.2 1, 8, .inl (nA Gr)))] : va_W) = [(m0, .inr (9, [.int (nI sh), .ref rO, .ref rU, .ref rT, .int (nI rg), .ref rS, .ref rB, .ref rP, .ref rG, .long (lN (tA ((U (seN sh Si k)) * (((Gr (rgN sh k)) * (Gr (rgN sh k))) - ((Sm (rgN sh k)) * (Sm (rgN sh k))))) ((V (seN sh Si k)) * ((2 * (Sm (rgN sh k))) * (Gr (rgN sh k)))))), .long (lN (tB ((U (seN sh Si k)) * (((Gr (rgN sh k)) * (Gr (rgN sh k))) - ((Sm (rgN sh k)) * (Sm (rgN sh k))))) ((V (seN sh Si k)) * ((2 * (Sm (rgN sh k))) * (Gr (rgN sh k)))))), .int mk, .ref rM, .int md, .ref rN, .ref rL, .ref rZ, .ref rE, .ref rI, .int hc, .ref rA, .ref rX, .int lnn, .ref rV, .ref rW, .int sl, .ref rC, .ref rF, .ref rQ, .ref rK, .ref rR, .ref rD])), (rO, .inl (E.2 2, 4, .inr (.inl (lA U)))), (rU, .inl (E.2 2, 4, .inr (.inl (lA V)))), (rT, .inl (E.2 1, 4, .inl (nA Te))), (rS, .inl (E.2 1, 8, .inl (nA Si))), (rB, .inl (E.2 1, 8, .inl (nA Ba))), (rP, .inl (E.2 1, 8, .inl (nA Sm))), (rG, .inl (E.2 1, 8, .inl (nA Gr)))] := by rfl
  have hP9 : va_P E.1 vwCl [(m0, .inr (9, [.int (nI sh), .ref rO, .ref rU, .ref rT, .int (nI rg), .ref rS, .ref rB, .ref rP, .ref rG, .long (lN (tA (U (seN sh Si k) * (Gr (rgN sh k) * Gr (rgN sh k) - Sm (rgN sh k) * Sm (rgN sh k))) (V (seN sh Si k) * (2 * Sm (rgN sh k) * Gr (rgN sh k))))), .long (lN (tB (U (seN sh Si k) * (Gr (rgN sh k) * Gr (rgN sh k) - Sm (rgN sh k) * Sm (rgN sh k))) (V (seN sh Si k) * (2 * Sm (rgN sh k) * Gr (rgN sh k))))), .int mk, .ref rM, .int md, .ref rN, .ref rL, .ref rZ, .ref rE, .ref rI, .int hc, .ref rA, .ref rX, .int lnn, .ref rV, .ref rW, .int sl, .ref rC, .ref rF, .ref rQ, .ref rK, .ref rR, .ref rD])), (rO, .inl (E.2 2, 4, .inr (.inl (lA U)))), (rU, .inl (E.2 2, 4, .inr (.inl (lA V)))), (rT, .inl (E.2 1, 4, .inl (nA Te))), (rS, .inl (E.2 1, 8, .inl (nA Si))), (rB, .inl (E.2 1, 8, .inl (nA Ba))), (rP, .inl (E.2 1, 8, .inl (nA Sm))), (rG, .inl (E.2 1, 8, .inl (nA Gr)))] H := by rw [e9]; exact hP.sub [7, 0, 1, 2, 3, 4, 5, 6] rfl
  have hD9 : va_D A [(m0, .inr (9, [.int (nI sh), .ref rO, .ref rU, .ref rT, .int (nI rg), .ref rS, .ref rB, .ref rP, .ref rG, .long (lN (tA (U (seN sh Si k) * (Gr (rgN sh k) * Gr (rgN sh k) - Sm (rgN sh k) * Sm (rgN sh k))) (V (seN sh Si k) * (2 * Sm (rgN sh k) * Gr (rgN sh k))))), .long (lN (tB (U (seN sh Si k) * (Gr (rgN sh k) * Gr (rgN sh k) - Sm (rgN sh k) * Sm (rgN sh k))) (V (seN sh Si k) * (2 * Sm (rgN sh k) * Gr (rgN sh k))))), .int mk, .ref rM, .int md, .ref rN, .ref rL, .ref rZ, .ref rE, .ref rI, .int hc, .ref rA, .ref rX, .int lnn, .ref rV, .ref rW, .int sl, .ref rC, .ref rF, .ref rQ, .ref rK, .ref rR, .ref rD])), (rO, .inl (E.2 2, 4, .inr (.inl (lA U)))), (rU, .inl (E.2 2, 4, .inr (.inl (lA V)))), (rT, .inl (E.2 1, 4, .inl (nA Te))), (rS, .inl (E.2 1, 8, .inl (nA Si))), (rB, .inl (E.2 1, 8, .inl (nA Ba))), (rP, .inl (E.2 1, 8, .inl (nA Sm))), (rG, .inl (E.2 1, 8, .inl (nA Gr)))] := by rw [e9]; exact hD.sub [7, 0, 1, 2, 3, 4, 5, 6] (by decide) rfl
  exact W.vret hx hb hr (fun t9 ht9 hW9 => ⟨⟨(), rfl, trivial, ⟨by rw [ht9]; exact hP9, hD9⟩⟩, hS.F ht9⟩) hS.2.2 dX9_findTone_227
set_option maxHeartbeats 1000000 in
set_option maxRecDepth 100000 in
theorem c_X9_findTone_5_1 (l : Launch) (E : EnvT) (sz : Nat) (m0 : Nat) (sh : Nat) (rO : Nat) (rU : Nat) (rT : Nat) (rg : Nat) (rS : Nat) (rB : Nat) (rP : Nat) (rG : Nat) (ab0 : Int64) (be0 : Int64) (mk : Int32) (rM : Nat) (md : Int32) (rN : Nat) (rL : Nat) (rZ : Nat) (rE : Nat) (rI : Nat) (hc : Int32) (rA : Nat) (rX : Nat) (lnn : Int32) (rV : Nat) (rW : Nat) (sl : Int32) (rC : Nat) (rF : Nat) (rQ : Nat) (rK : Nat) (rR : Nat) (rD : Nat) (U : Nat → Nat) (V : Nat → Nat) (Te : Nat → Nat) (Si : Nat → Nat) (Ba : Nat → Nat) (Sm : Nat → Nat) (Gr : Nat → Nat) (k : Nat) (hs1 : 1 ≤ sh) (hs4 : sh ≤ 4) (hr8 : rg ≤ 8) (hk : k < 2 * sh - 1 + 4 * rg) (hse : seN sh Si k < 4) (hU1 : 0 < U (seN sh Si k)) (hU2 : U (seN sh Si k) ≤ 8000000) (hV1 : 0 < V (seN sh Si k)) (hV2 : V (seN sh Si k) ≤ 8000000) (hkd : kdN sh k = 5) (hk2 : 2 * sh - 1 ≤ k) (hrr : rgN sh k < 8) (hb1 : 3 ≤ Ba (rgN sh k)) (hb2 : Ba (rgN sh k) ≤ 30) (hp1 : 1 ≤ Sm (rgN sh k)) (hpq : Sm (rgN sh k) < Gr (rgN sh k)) (hq2 : Gr (rgN sh k) ≤ 100) : Met l yX9_findTone wsX9_findTone ({ frames := 2, cells := 0, slots := 0, locals := 42 }) (va_Pc [.ref m0, .int (nI k), .int 1] (PW E [(m0, .inr (9, [.int (nI sh), .ref rO, .ref rU, .ref rT, .int (nI rg), .ref rS, .ref rB, .ref rP, .ref rG, .long ab0, .long be0, .int mk, .ref rM, .int md, .ref rN, .ref rL, .ref rZ, .ref rE, .ref rI, .int hc, .ref rA, .ref rX, .int lnn, .ref rV, .ref rW, .int sl, .ref rC, .ref rF, .ref rQ, .ref rK, .ref rR, .ref rD])), (rO, .inl (E.2 2, 4, .inr (.inl (lA U)))), (rU, .inl (E.2 2, 4, .inr (.inl (lA V)))), (rT, .inl (E.2 1, 4, .inl (nA Te))), (rS, .inl (E.2 1, 8, .inl (nA Si))), (rB, .inl (E.2 1, 8, .inl (nA Ba))), (rP, .inl (E.2 1, 8, .inl (nA Sm))), (rG, .inl (E.2 1, 8, .inl (nA Gr)))] sz)) (va_Qv (fun (uu : Unit) => True) (fun (uu : Unit) t => BW E (va_A [(m0, .inr (9, [.int (nI sh), .ref rO, .ref rU, .ref rT, .int (nI rg), .ref rS, .ref rB, .ref rP, .ref rG, .long ab0, .long be0, .int mk, .ref rM, .int md, .ref rN, .ref rL, .ref rZ, .ref rE, .ref rI, .int hc, .ref rA, .ref rX, .int lnn, .ref rV, .ref rW, .int sl, .ref rC, .ref rF, .ref rQ, .ref rK, .ref rR, .ref rD])), (rO, .inl (E.2 2, 4, .inr (.inl (lA U)))), (rU, .inl (E.2 2, 4, .inr (.inl (lA V)))), (rT, .inl (E.2 1, 4, .inl (nA Te))), (rS, .inl (E.2 1, 8, .inl (nA Si))), (rB, .inl (E.2 1, 8, .inl (nA Ba))), (rP, .inl (E.2 1, 8, .inl (nA Sm))), (rG, .inl (E.2 1, 8, .inl (nA Gr)))] sz) [(m0, .inr (9, [.int (nI sh), .ref rO, .ref rU, .ref rT, .int (nI rg), .ref rS, .ref rB, .ref rP, .ref rG, .long (lN (tA (U (seN sh Si k) * (2 * (Gr (rgN sh k) * Gr (rgN sh k) - Sm (rgN sh k) * Sm (rgN sh k)))) (V (seN sh Si k) * (2 * Sm (rgN sh k) * Gr (rgN sh k))))), .long (lN (tB (U (seN sh Si k) * (2 * (Gr (rgN sh k) * Gr (rgN sh k) - Sm (rgN sh k) * Sm (rgN sh k)))) (V (seN sh Si k) * (2 * Sm (rgN sh k) * Gr (rgN sh k))))), .int mk, .ref rM, .int md, .ref rN, .ref rL, .ref rZ, .ref rE, .ref rI, .int hc, .ref rA, .ref rX, .int lnn, .ref rV, .ref rW, .int sl, .ref rC, .ref rF, .ref rQ, .ref rK, .ref rR, .ref rD])), (rO, .inl (E.2 2, 4, .inr (.inl (lA U)))), (rU, .inl (E.2 2, 4, .inr (.inl (lA V)))), (rT, .inl (E.2 1, 4, .inl (nA Te))), (rS, .inl (E.2 1, 8, .inl (nA Si))), (rB, .inl (E.2 1, 8, .inl (nA Ba))), (rP, .inl (E.2 1, 8, .inl (nA Sm))), (rG, .inl (E.2 1, 8, .inl (nA Gr)))] t) (va_A [(m0, .inr (9, [.int (nI sh), .ref rO, .ref rU, .ref rT, .int (nI rg), .ref rS, .ref rB, .ref rP, .ref rG, .long ab0, .long be0, .int mk, .ref rM, .int md, .ref rN, .ref rL, .ref rZ, .ref rE, .ref rI, .int hc, .ref rA, .ref rX, .int lnn, .ref rV, .ref rW, .int sl, .ref rC, .ref rF, .ref rQ, .ref rK, .ref rR, .ref rD])), (rO, .inl (E.2 2, 4, .inr (.inl (lA U)))), (rU, .inl (E.2 2, 4, .inr (.inl (lA V)))), (rT, .inl (E.2 1, 4, .inl (nA Te))), (rS, .inl (E.2 1, 8, .inl (nA Si))), (rB, .inl (E.2 1, 8, .inl (nA Ba))), (rP, .inl (E.2 1, 8, .inl (nA Sm))), (rG, .inl (E.2 1, 8, .inl (nA Gr)))] sz)) 0 0 (va_A [(m0, .inr (9, [.int (nI sh), .ref rO, .ref rU, .ref rT, .int (nI rg), .ref rS, .ref rB, .ref rP, .ref rG, .long ab0, .long be0, .int mk, .ref rM, .int md, .ref rN, .ref rL, .ref rZ, .ref rE, .ref rI, .int hc, .ref rA, .ref rX, .int lnn, .ref rV, .ref rW, .int sl, .ref rC, .ref rF, .ref rQ, .ref rK, .ref rR, .ref rD])), (rO, .inl (E.2 2, 4, .inr (.inl (lA U)))), (rU, .inl (E.2 2, 4, .inr (.inl (lA V)))), (rT, .inl (E.2 1, 4, .inl (nA Te))), (rS, .inl (E.2 1, 8, .inl (nA Si))), (rB, .inl (E.2 1, 8, .inl (nA Ba))), (rP, .inl (E.2 1, 8, .inl (nA Sm))), (rG, .inl (E.2 1, 8, .inl (nA Gr)))] sz) := by
  refine Met.ofW (cc := cX9_findTone) (maxL := 14) (ret := none) (by decide +kernel) rfl ?_
  intro p e s m args below meth c s₁ B hml hv
  obtain ⟨rfl, hsz, hP, hE, hD0⟩ := hv
  have hx := B.exec
  have hb := B.bytes
  have hr := B.returns
  have hts := atoms_spec (ws := wsX9_findTone) B.pre
  have hown : s.vm.findClass RX9 = some m.cls := findClass_of_methodNamed B.named
  have hlocks := B.notSynchronized
  have hK := hE.1
  have hNN := hE.2.1
  have hinX9 : ∀ w ∈ wsX90, w ∈ wsX9_findTone := fun w h => List.mem_cons_of_mem _ (List.mem_append_right _ h)
  subst hsz
  have hD := hD0.self (sz := s.heap.size)
  generalize hAe : va_A [(m0, .inr (9, [.int (nI sh), .ref rO, .ref rU, .ref rT, .int (nI rg), .ref rS, .ref rB, .ref rP, .ref rG, .long ab0, .long be0, .int mk, .ref rM, .int md, .ref rN, .ref rL, .ref rZ, .ref rE, .ref rI, .int hc, .ref rA, .ref rX, .int lnn, .ref rV, .ref rW, .int sl, .ref rC, .ref rF, .ref rQ, .ref rK, .ref rR, .ref rD])), (rO, .inl (E.2 2, 4, .inr (.inl (lA U)))), (rU, .inl (E.2 2, 4, .inr (.inl (lA V)))), (rT, .inl (E.2 1, 4, .inl (nA Te))), (rS, .inl (E.2 1, 8, .inl (nA Si))), (rB, .inl (E.2 1, 8, .inl (nA Ba))), (rP, .inl (E.2 1, 8, .inl (nA Sm))), (rG, .inl (E.2 1, 8, .inl (nA Gr)))] s.heap.size = A at hD ⊢
  have hA : ∀ q : Nat, s.heap.size ≤ q → A q := fun q h => by rw [← hAe]; exact Or.inr h
  have hS : va_S A s.heap s.heap [] := va_S.rf
  have hl := lv_entry ([.ref m0, .int (nI k), .int 1]) (n := 14) (Nat.le_of_ble_eq_true rfl)
  rw [lg_entry_eq]
  generalize (lg_sl ([.ref m0, .int (nI k), .int 1]) ++ List.replicate (14 - (lg_sl ([.ref m0, .int (nI k), .int 1])).length) Slot.unset).toArray = ls at hl ⊢
  have hl : lv_has ls 14 [(0, .ref m0), (1, .int (nI k)), (2, .int 1)] := hl
  have g0 : Sm (rgN sh k) * Sm (rgN sh k) < Gr (rgN sh k) * Gr (rgN sh k) := Nat.lt_of_le_of_lt (Nat.mul_le_mul_left _ (Nat.le_of_lt hpq)) (Nat.mul_lt_mul_of_pos_right hpq (by omega))
  have g1 : Gr (rgN sh k) * Gr (rgN sh k) ≤ 100 * 100 := Nat.mul_le_mul hq2 hq2
  have g3 : 0 < 2 * Sm (rgN sh k) * Gr (rgN sh k) := Nat.mul_pos (by omega) (by omega)
  have g4 : 2 * Sm (rgN sh k) * Gr (rgN sh k) ≤ 200 * 100 := Nat.mul_le_mul (by omega) hq2
  refine lv_aload_n hx hb dX9_findTone_0 rfl (lv_at hl 0 rfl) ?_
  refine lv_iload_n hx hb dX9_findTone_1 rfl (lv_at hl 1 rfl) ?_
  refine rVi hE ⟨hx, hb, hml, hown, hts⟩ (c_X9_kindOf l E m0 sh rO rU rT rg rS rB rP rG ab0 be0 mk rM md rN rL rZ rE rI hc rA rX lnn rV rW sl rC rF rQ rK rR rD k (hs1) (hs4) (hr8) (hk)) (cwV 1 hts gX9_findTone_X9_kindOf rfl rfl rfl (by decide +kernel) ⟨Nat.le_of_ble_eq_true rfl, Nat.le_of_ble_eq_true rfl⟩) (hP.sub [0] rfl) 0 9 rfl rfl rfl hl.1 rfl (Nat.le_of_ble_eq_true rfl) dX9_findTone_2 ⟨(Nat.zero_le _), (Nat.zero_le _)⟩ ?_
  rw [show (nI (kdN sh k) : Int32) = 5 from by rw [hkd]; rfl]
  refine lv_istore_n (lv' := [(3, .int 5), (0, .ref m0), (1, .int (nI k)), (2, .int 1)]) hx hb dX9_findTone_5 rfl hl (by decide) rfl (fun ls hl => ?_)
  refine lv_aload_n hx hb dX9_findTone_6 rfl (lv_at hl 1 rfl) ?_
  refine lv_iload_n hx hb dX9_findTone_7 rfl (lv_at hl 2 rfl) ?_
  refine rVi hE ⟨hx, hb, hml, hown, hts⟩ (c_X9_shaftOf l E m0 sh rO rU rT rg rS rB rP rG ab0 be0 mk rM md rN rL rZ rE rI hc rA rX lnn rV rW sl rC rF rQ rK rR rD Si k (hs1) (hs4) (hr8) (hk)) (cwV 1 hts gX9_findTone_X9_shaftOf rfl rfl rfl (by decide +kernel) ⟨Nat.le_of_ble_eq_true rfl, Nat.le_of_ble_eq_true rfl⟩) (hP.sub [0, 4] rfl) 0 9 rfl rfl rfl hl.1 rfl (Nat.le_of_ble_eq_true rfl) dX9_findTone_8 ⟨(Nat.zero_le _), (Nat.zero_le _)⟩ ?_
  refine lv_istore (lv' := [(4, .int (nI (seN sh Si k))), (3, .int 5), (0, .ref m0), (1, .int (nI k)), (2, .int 1)]) hx hb dX9_findTone_11 hl (by decide) rfl (fun ls hl => ?_)
  refine lv_iload_n hx hb dX9_findTone_13 rfl (lv_at hl 4 rfl) ?_
  refine lv_i2l (v := 1) hx hb dX9_findTone_14 (by decide) ?_
  refine lv_lconst (v := 1) hx hb dX9_findTone_15 (by decide) ?_
  refine lv_ladd hx hb dX9_findTone_16 ?_
  rw [show ((1 : Int64) + (1 : Int64) : Int64) = lN (2) from lN_add 1 1]
  refine lv_lstore (lv' := [(5, .long (lN (2))), (4, .int (nI (seN sh Si k))), (3, .int 5), (0, .ref m0), (1, .int (nI k)), (2, .int 1)]) hx hb dX9_findTone_17 hl (by decide) rfl (fun ls hl => ?_)
  refine lv_lconst (v := 1) hx hb dX9_findTone_19 (by decide) ?_
  refine lv_lstore (lv' := [(7, .long 1), (5, .long (lN (2))), (4, .int (nI (seN sh Si k))), (3, .int 5), (0, .ref m0), (1, .int (nI k)), (2, .int 1)]) hx hb dX9_findTone_20 hl (by decide) rfl (fun ls hl => ?_)
  refine lv_iload_n hx hb dX9_findTone_22 rfl (lv_at hl 3 rfl) ?_
  refine lv_iconst (v := 1) hx hb dX9_findTone_23 (by decide) ?_
  refine lv_icmp_ne (tgt := 45) hx hb dX9_findTone_24 (by decide) (fun c_24 => ?_) (fun c_24 => by exfalso; revert c_24; decide)
  refine lv_iload_n hx hb dX9_findTone_45 rfl (lv_at hl 3 rfl) ?_
  refine lv_iconst (v := 1) hx hb dX9_findTone_46 (by decide) ?_
  refine lv_icmp_le (tgt := 203) hx hb dX9_findTone_47 (by decide) (fun c_47 => by exfalso; revert c_47; decide) (fun c_47 => ?_)
  refine lv_aload_n hx hb dX9_findTone_50 rfl (lv_at hl 4 rfl) ?_
  refine lv_iload_n hx hb dX9_findTone_51 rfl (lv_at hl 5 rfl) ?_
  refine rVi hE ⟨hx, hb, hml, hown, hts⟩ (c_X9_ringOf l E m0 sh rO rU rT rg rS rB rP rG ab0 be0 mk rM md rN rL rZ rE rI hc rA rX lnn rV rW sl rC rF rQ rK rR rD k (hs1) (hs4) (hr8) (hk) (hk2)) (cwV 1 hts gX9_findTone_X9_ringOf rfl rfl rfl (by decide +kernel) ⟨Nat.le_of_ble_eq_true rfl, Nat.le_of_ble_eq_true rfl⟩) (hP.sub [0] rfl) 0 9 rfl rfl rfl hl.1 rfl (Nat.le_of_ble_eq_true rfl) dX9_findTone_52 ⟨(Nat.zero_le _), (Nat.zero_le _)⟩ ?_
  refine lv_istore (lv' := [(9, .int (nI (rgN sh k))), (7, .long 1), (5, .long (lN (2))), (4, .int (nI (seN sh Si k))), (3, .int 5), (0, .ref m0), (1, .int (nI k)), (2, .int 1)]) hx hb dX9_findTone_55 hl (by decide) rfl (fun ls hl => ?_)
  refine lv_aload_n hx hb dX9_findTone_57 rfl (lv_at hl 5 rfl) ?_
  refine va_get (D := E.1) (ci := 9) (v := .ref rP) (C := RX9) (T := TX9) (N := 32) hx hb hts hinX9 hown hK hP 0 rfl rfl 7 (by decide) (hts (.fieldLink RX9 30 "WornRingsModel" "small" "[I") (by decide +kernel)) (fun _ h9 => h9) rfl dX9_findTone_58 ?_
  refine lv_iload hx hb dX9_findTone_61 (lv_at hl 0 rfl) ?_
  refine va_iald hx hb hK hP 6 1 rfl rfl (vp_in_nI (by omega) (by omega)) dX9_findTone_63 ?_
  rw [nI_clamp (n := rgN sh k) (by omega)]
  refine W.eq (g2 := F0 m 64 ls [.int (nI (Sm (rgN sh k)))]) rfl ?_
  refine lv_i2l (v := lN (Sm (rgN sh k))) hx hb dX9_findTone_64 (nI_l (by omega)) ?_
  refine lv_lstore (lv' := [(10, .long (lN (Sm (rgN sh k)))), (9, .int (nI (rgN sh k))), (7, .long 1), (5, .long (lN (2))), (4, .int (nI (seN sh Si k))), (3, .int 5), (0, .ref m0), (1, .int (nI k)), (2, .int 1)]) hx hb dX9_findTone_65 hl (by decide) rfl (fun ls hl => ?_)
  refine lv_aload_n hx hb dX9_findTone_67 rfl (lv_at hl 6 rfl) ?_
  refine va_get (D := E.1) (ci := 9) (v := .ref rG) (C := RX9) (T := TX9) (N := 32) hx hb hts hinX9 hown hK hP 0 rfl rfl 8 (by decide) (hts (.fieldLink RX9 33 "WornRingsModel" "great" "[I") (by decide +kernel)) (fun _ h9 => h9) rfl dX9_findTone_68 ?_
  refine lv_iload hx hb dX9_findTone_71 (lv_at hl 1 rfl) ?_
  refine va_iald hx hb hK hP 7 1 rfl rfl (vp_in_nI (by omega) (by omega)) dX9_findTone_73 ?_
  rw [nI_clamp (n := rgN sh k) (by omega)]
  refine W.eq (g2 := F0 m 74 ls [.int (nI (Gr (rgN sh k)))]) rfl ?_
  refine lv_i2l (v := lN (Gr (rgN sh k))) hx hb dX9_findTone_74 (nI_l (by omega)) ?_
  refine lv_lstore (lv' := [(12, .long (lN (Gr (rgN sh k)))), (10, .long (lN (Sm (rgN sh k)))), (9, .int (nI (rgN sh k))), (7, .long 1), (5, .long (lN (2))), (4, .int (nI (seN sh Si k))), (3, .int 5), (0, .ref m0), (1, .int (nI k)), (2, .int 1)]) hx hb dX9_findTone_75 hl (by decide) rfl (fun ls hl => ?_)
  refine lv_iload_n hx hb dX9_findTone_77 rfl (lv_at hl 6 rfl) ?_
  refine lv_iconst (v := 5) hx hb dX9_findTone_78 (by decide) ?_
  refine lv_icmp_ne (tgt := 94) hx hb dX9_findTone_79 (by decide) (fun c_79 => by exfalso; revert c_79; decide) (fun c_79 => ?_)
  refine lv_ldc2 (v := 2) hx hb hown (hts (.constantLong RX9 140 (2)) (by decide +kernel)) dX9_findTone_82 ?_
  refine lv_lload hx hb dX9_findTone_85 (lv_at hl 1 rfl) ?_
  refine lv_lmul hx hb dX9_findTone_87 ?_
  rw [show ((2 : Int64) * (lN (Sm (rgN sh k))) : Int64) = lN (2 * (Sm (rgN sh k))) from lN_mul 2 (Sm (rgN sh k))]
  refine lv_lload hx hb dX9_findTone_88 (lv_at hl 0 rfl) ?_
  refine lv_lmul hx hb dX9_findTone_90 ?_
  rw [show ((lN (2 * (Sm (rgN sh k)))) * (lN (Gr (rgN sh k))) : Int64) = lN ((2 * (Sm (rgN sh k))) * (Gr (rgN sh k))) from lN_mul (2 * (Sm (rgN sh k))) (Gr (rgN sh k))]
  refine lv_goto (tgt := 100) hx hb dX9_findTone_91 (by decide) ?_
  refine lv_lstore (lv' := [(7, .long (lN ((2 * (Sm (rgN sh k))) * (Gr (rgN sh k))))), (12, .long (lN (Gr (rgN sh k)))), (10, .long (lN (Sm (rgN sh k)))), (9, .int (nI (rgN sh k))), (5, .long (lN (2))), (4, .int (nI (seN sh Si k))), (3, .int 5), (0, .ref m0), (1, .int (nI k)), (2, .int 1)]) hx hb dX9_findTone_100 hl (by decide) rfl (fun ls hl => ?_)
  refine lv_iload_n hx hb dX9_findTone_102 rfl (lv_at hl 6 rfl) ?_
  refine lv_iconst (v := 2) hx hb dX9_findTone_103 (by decide) ?_
  refine lv_icmp_ne (tgt := 124) hx hb dX9_findTone_104 (by decide) (fun c_104 => ?_) (fun c_104 => by exfalso; revert c_104; decide)
  refine lv_iload_n hx hb dX9_findTone_124 rfl (lv_at hl 6 rfl) ?_
  refine lv_iconst (v := 3) hx hb dX9_findTone_125 (by decide) ?_
  refine lv_icmp_ne (tgt := 146) hx hb dX9_findTone_126 (by decide) (fun c_126 => ?_) (fun c_126 => by exfalso; revert c_126; decide)
  refine lv_iload_n hx hb dX9_findTone_146 rfl (lv_at hl 6 rfl) ?_
  refine lv_iconst (v := 4) hx hb dX9_findTone_147 (by decide) ?_
  refine lv_icmp_ne (tgt := 159) hx hb dX9_findTone_148 (by decide) (fun c_148 => ?_) (fun c_148 => by exfalso; revert c_148; decide)
  refine lv_lload hx hb dX9_findTone_159 (lv_at hl 1 rfl) ?_
  refine lv_lload hx hb dX9_findTone_161 (lv_at hl 1 rfl) ?_
  refine lv_lmul hx hb dX9_findTone_163 ?_
  rw [show ((lN (Gr (rgN sh k))) * (lN (Gr (rgN sh k))) : Int64) = lN ((Gr (rgN sh k)) * (Gr (rgN sh k))) from lN_mul (Gr (rgN sh k)) (Gr (rgN sh k))]
  refine lv_lload hx hb dX9_findTone_164 (lv_at hl 2 rfl) ?_
  refine lv_lload hx hb dX9_findTone_166 (lv_at hl 2 rfl) ?_
  refine lv_lmul hx hb dX9_findTone_168 ?_
  rw [show ((lN (Sm (rgN sh k))) * (lN (Sm (rgN sh k))) : Int64) = lN ((Sm (rgN sh k)) * (Sm (rgN sh k))) from lN_mul (Sm (rgN sh k)) (Sm (rgN sh k))]
  refine lv_lsub hx hb dX9_findTone_169 ?_
  rw [show ((lN ((Gr (rgN sh k)) * (Gr (rgN sh k)))) - (lN ((Sm (rgN sh k)) * (Sm (rgN sh k)))) : Int64) = lN (((Gr (rgN sh k)) * (Gr (rgN sh k))) - ((Sm (rgN sh k)) * (Sm (rgN sh k)))) from lN_sub (a := ((Gr (rgN sh k)) * (Gr (rgN sh k)))) (b := ((Sm (rgN sh k)) * (Sm (rgN sh k)))) (by omega)]
  refine lv_lstore (lv' := [(5, .long (lN (((Gr (rgN sh k)) * (Gr (rgN sh k))) - ((Sm (rgN sh k)) * (Sm (rgN sh k)))))), (7, .long (lN ((2 * (Sm (rgN sh k))) * (Gr (rgN sh k))))), (12, .long (lN (Gr (rgN sh k)))), (10, .long (lN (Sm (rgN sh k)))), (9, .int (nI (rgN sh k))), (4, .int (nI (seN sh Si k))), (3, .int 5), (0, .ref m0), (1, .int (nI k)), (2, .int 1)]) hx hb dX9_findTone_170 hl (by decide) rfl (fun ls hl => ?_)
  refine lv_iload_n hx hb dX9_findTone_172 rfl (lv_at hl 9 rfl) ?_
  refine lv_iconst (v := 1) hx hb dX9_findTone_173 (by decide) ?_
  refine lv_icmp_ne (tgt := 186) hx hb dX9_findTone_174 (by decide) (fun c_174 => by exfalso; revert c_174; decide) (fun c_174 => ?_)
  refine lv_ldc2 (v := 2) hx hb hown (hts (.constantLong RX9 140 (2)) (by decide +kernel)) dX9_findTone_177 ?_
  refine lv_lload hx hb dX9_findTone_180 (lv_at hl 0 rfl) ?_
  refine lv_lmul hx hb dX9_findTone_182 ?_
  rw [show ((2 : Int64) * (lN (((Gr (rgN sh k)) * (Gr (rgN sh k))) - ((Sm (rgN sh k)) * (Sm (rgN sh k))))) : Int64) = lN (2 * (((Gr (rgN sh k)) * (Gr (rgN sh k))) - ((Sm (rgN sh k)) * (Sm (rgN sh k))))) from lN_mul 2 (((Gr (rgN sh k)) * (Gr (rgN sh k))) - ((Sm (rgN sh k)) * (Sm (rgN sh k))))]
  refine lv_goto (tgt := 201) hx hb dX9_findTone_183 (by decide) ?_
  refine lv_lstore (lv' := [(5, .long (lN (2 * (((Gr (rgN sh k)) * (Gr (rgN sh k))) - ((Sm (rgN sh k)) * (Sm (rgN sh k))))))), (7, .long (lN ((2 * (Sm (rgN sh k))) * (Gr (rgN sh k))))), (12, .long (lN (Gr (rgN sh k)))), (10, .long (lN (Sm (rgN sh k)))), (9, .int (nI (rgN sh k))), (4, .int (nI (seN sh Si k))), (3, .int 5), (0, .ref m0), (1, .int (nI k)), (2, .int 1)]) hx hb dX9_findTone_201 hl (by decide) rfl (fun ls hl => ?_)
  refine lv_aload_n hx hb dX9_findTone_203 rfl (lv_at hl 7 rfl) ?_
  refine lv_aload_n hx hb dX9_findTone_204 rfl (lv_at hl 7 rfl) ?_
  refine va_get (D := E.1) (ci := 9) (v := .ref rO) (C := RX9) (T := TX9) (N := 32) hx hb hts hinX9 hown hK hP 0 rfl rfl 1 (by decide) (hts (.fieldLink RX9 13 "WornRingsModel" "over" "[J") (by decide +kernel)) (fun _ h9 => h9) rfl dX9_findTone_205 ?_
  refine lv_iload hx hb dX9_findTone_208 (lv_at hl 5 rfl) ?_
  refine va_lald hx hb hK hP 1 2 rfl rfl (vp_in_nI (by omega) (by omega)) dX9_findTone_210 ?_
  rw [nI_clamp (n := seN sh Si k) (by omega)]
  refine W.eq (g2 := F0 m 211 ls [.long (lN (U (seN sh Si k))), .ref m0]) rfl ?_
  refine lv_lload hx hb dX9_findTone_211 (lv_at hl 0 rfl) ?_
  refine lv_lmul hx hb dX9_findTone_213 ?_
  rw [show ((lN (U (seN sh Si k))) * (lN (2 * (((Gr (rgN sh k)) * (Gr (rgN sh k))) - ((Sm (rgN sh k)) * (Sm (rgN sh k)))))) : Int64) = lN ((U (seN sh Si k)) * (2 * (((Gr (rgN sh k)) * (Gr (rgN sh k))) - ((Sm (rgN sh k)) * (Sm (rgN sh k)))))) from lN_mul (U (seN sh Si k)) (2 * (((Gr (rgN sh k)) * (Gr (rgN sh k))) - ((Sm (rgN sh k)) * (Sm (rgN sh k)))))]
  refine lv_aload_n hx hb dX9_findTone_214 rfl (lv_at hl 7 rfl) ?_
  refine va_get (D := E.1) (ci := 9) (v := .ref rU) (C := RX9) (T := TX9) (N := 32) hx hb hts hinX9 hown hK hP 0 rfl rfl 2 (by decide) (hts (.fieldLink RX9 17 "WornRingsModel" "under" "[J") (by decide +kernel)) (fun _ h9 => h9) rfl dX9_findTone_215 ?_
  refine lv_iload hx hb dX9_findTone_218 (lv_at hl 5 rfl) ?_
  refine va_lald hx hb hK hP 2 2 rfl rfl (vp_in_nI (by omega) (by omega)) dX9_findTone_220 ?_
  rw [nI_clamp (n := seN sh Si k) (by omega)]
  refine W.eq (g2 := F0 m 221 ls [.long (lN (V (seN sh Si k))), .long (lN ((U (seN sh Si k)) * (2 * (((Gr (rgN sh k)) * (Gr (rgN sh k))) - ((Sm (rgN sh k)) * (Sm (rgN sh k))))))), .ref m0]) rfl ?_
  refine lv_lload hx hb dX9_findTone_221 (lv_at hl 1 rfl) ?_
  refine lv_lmul hx hb dX9_findTone_223 ?_
  rw [show ((lN (V (seN sh Si k))) * (lN ((2 * (Sm (rgN sh k))) * (Gr (rgN sh k)))) : Int64) = lN ((V (seN sh Si k)) * ((2 * (Sm (rgN sh k))) * (Gr (rgN sh k)))) from lN_mul (V (seN sh Si k)) ((2 * (Sm (rgN sh k))) * (Gr (rgN sh k)))]
  refine wVv (wr := [(rO, .inl (E.2 2, 4, .inr (.inl (lA U)))), (rU, .inl (E.2 2, 4, .inr (.inl (lA V)))), (rT, .inl (E.2 1, 4, .inl (nA Te))), (rS, .inl (E.2 1, 8, .inl (nA Si))), (rB, .inl (E.2 1, 8, .inl (nA Ba))), (rP, .inl (E.2 1, 8, .inl (nA Sm))), (rG, .inl (E.2 1, 8, .inl (nA Gr)))]) hE ⟨hx, hb, hml, hown, hts⟩ (c_X9_reduce l E s.heap.size m0 (nI sh) rO rU rT (nI rg) rS rB rP rG ab0 be0 mk rM md rN rL rZ rE rI hc rA rX lnn rV rW sl rC rF rQ rK rR rD ((U (seN sh Si k)) * (2 * (((Gr (rgN sh k)) * (Gr (rgN sh k))) - ((Sm (rgN sh k)) * (Sm (rgN sh k)))))) ((V (seN sh Si k)) * ((2 * (Sm (rgN sh k))) * (Gr (rgN sh k)))) (Nat.mul_pos hU1 (by omega)) (Nat.lt_of_le_of_lt (Nat.mul_le_mul hU2 (show _ ≤ 20000 by omega)) (by decide)) (Nat.mul_pos hV1 (by omega)) (Nat.lt_of_le_of_lt (Nat.mul_le_mul hV2 (show _ ≤ 20000 by omega)) (by decide))) (cwV 2 hts gX9_findTone_X9_reduce rfl rfl rfl (by decide +kernel) ⟨Nat.le_of_ble_eq_true rfl, Nat.le_of_ble_eq_true rfl⟩) hP hD hS hA [0] [1, 2, 3, 4, 5, 6, 7] rfl rfl (by decide) (by decide) (by decide) 0 9 rfl rfl rfl hl.1 rfl (Nat.le_of_ble_eq_true rfl) dX9_findTone_224 ⟨(Nat.zero_le _), (Nat.zero_le _)⟩ (fun u H locs hw hP hD hS => ?_)
  have hP : va_P E.1 vwCl [(rO, .inl (E.2 2, 4, .inr (.inl (lA U)))), (rU, .inl (E.2 2, 4, .inr (.inl (lA V)))), (rT, .inl (E.2 1, 4, .inl (nA Te))), (rS, .inl (E.2 1, 8, .inl (nA Si))), (rB, .inl (E.2 1, 8, .inl (nA Ba))), (rP, .inl (E.2 1, 8, .inl (nA Sm))), (rG, .inl (E.2 1, 8, .inl (nA Gr))), (m0, .inr (9, [.int (nI sh), .ref rO, .ref rU, .ref rT, .int (nI rg), .ref rS, .ref rB, .ref rP, .ref rG, .long (lN (tA ((U (seN sh Si k)) * (2 * (((Gr (rgN sh k)) * (Gr (rgN sh k))) - ((Sm (rgN sh k)) * (Sm (rgN sh k)))))) ((V (seN sh Si k)) * ((2 * (Sm (rgN sh k))) * (Gr (rgN sh k)))))), .long (lN (tB ((U (seN sh Si k)) * (2 * (((Gr (rgN sh k)) * (Gr (rgN sh k))) - ((Sm (rgN sh k)) * (Sm (rgN sh k)))))) ((V (seN sh Si k)) * ((2 * (Sm (rgN sh k))) * (Gr (rgN sh k)))))), .int mk, .ref rM, .int md, .ref rN, .ref rL, .ref rZ, .ref rE, .ref rI, .int hc, .ref rA, .ref rX, .int lnn, .ref rV, .ref rW, .int sl, .ref rC, .ref rF, .ref rQ, .ref rK, .ref rR, .ref rD]))] H := hP
  have hD : va_D A [(rO, .inl (E.2 2, 4, .inr (.inl (lA U)))), (rU, .inl (E.2 2, 4, .inr (.inl (lA V)))), (rT, .inl (E.2 1, 4, .inl (nA Te))), (rS, .inl (E.2 1, 8, .inl (nA Si))), (rB, .inl (E.2 1, 8, .inl (nA Ba))), (rP, .inl (E.2 1, 8, .inl (nA Sm))), (rG, .inl (E.2 1, 8, .inl (nA Gr))), (m0, .inr (9, [.int (nI sh), .ref rO, .ref rU, .ref rT, .int (nI rg), .ref rS, .ref rB, .ref rP, .ref rG, .long (lN (tA ((U (seN sh Si k)) * (2 * (((Gr (rgN sh k)) * (Gr (rgN sh k))) - ((Sm (rgN sh k)) * (Sm (rgN sh k)))))) ((V (seN sh Si k)) * ((2 * (Sm (rgN sh k))) * (Gr (rgN sh k)))))), .long (lN (tB ((U (seN sh Si k)) * (2 * (((Gr (rgN sh k)) * (Gr (rgN sh k))) - ((Sm (rgN sh k)) * (Sm (rgN sh k)))))) ((V (seN sh Si k)) * ((2 * (Sm (rgN sh k))) * (Gr (rgN sh k)))))), .int mk, .ref rM, .int md, .ref rN, .ref rL, .ref rZ, .ref rE, .ref rI, .int hc, .ref rA, .ref rX, .int lnn, .ref rV, .ref rW, .int sl, .ref rC, .ref rF, .ref rQ, .ref rK, .ref rR, .ref rD]))] := hD
  have e9 : ([(m0, .inr (9, [.int (nI sh), .ref rO, .ref rU, .ref rT, .int (nI rg), .ref rS, .ref rB, .ref rP, .ref rG, .long (lN (tA (U (seN sh Si k) * (2 * (Gr (rgN sh k) * Gr (rgN sh k) - Sm (rgN sh k) * Sm (rgN sh k)))) (V (seN sh Si k) * (2 * Sm (rgN sh k) * Gr (rgN sh k))))), .long (lN (tB (U (seN sh Si k) * (2 * (Gr (rgN sh k) * Gr (rgN sh k) - Sm (rgN sh k) * Sm (rgN sh k)))) (V (seN sh Si k) * (2 * Sm (rgN sh k) * Gr (rgN sh k))))), .int mk, .ref rM, .int md, .ref rN, .ref rL, .ref rZ, .ref rE, .ref rI, .int hc, .ref rA, .ref rX, .int lnn, .ref rV, .ref rW, .int sl, .ref rC, .ref rF, .ref rQ, .ref rK, .ref rR, .ref rD])), (rO, .inl (E.2 2, 4, .inr (.inl (lA U)))), (rU, .inl (E.2 2, 4, .inr (.inl (lA V)))), (rT, .inl (E.2 1, 4, .inl (nA Te))), (rS, .inl (E.2 1, 8, .inl (nA Si))), (rB, .inl (E.2 1, 8, .inl (nA Ba))), (rP, .inl (E.2 1, 8, .inl (nA Sm))), (rG, .inl (E.2 1, 8, .inl (nA Gr)))] : va_W) = [(m0, .inr (9, [.int (nI sh), .ref rO, .ref rU, .ref rT, .int (nI rg), .ref rS, .ref rB, .ref rP, .ref rG, .long (lN (tA ((U (seN sh Si k)) * (2 * (((Gr (rgN sh k)) * (Gr (rgN sh k))) - ((Sm (rgN sh k)) * (Sm (rgN sh k)))))) ((V (seN sh Si k)) * ((2 * (Sm (rgN sh k))) * (Gr (rgN sh k)))))), .long (lN (tB ((U (seN sh Si k)) * (2 * (((Gr (rgN sh k)) * (Gr (rgN sh k))) - ((Sm (rgN sh k)) * (Sm (rgN sh k)))))) ((V (seN sh Si k)) * ((2 * (Sm (rgN sh k))) * (Gr (rgN sh k)))))), .int mk, .ref rM, .int md, .ref rN, .ref rL, .ref rZ, .ref rE, .ref rI, .int hc, .ref rA, .ref rX, .int lnn, .ref rV, .ref rW, .int sl, .ref rC, .ref rF, .ref rQ, .ref rK, .ref rR, .ref rD])), (rO, .inl (E.2 2, 4, .inr (.inl (lA U)))), (rU, .inl (E.2 2, 4, .inr (.inl (lA V)))), (rT, .inl (E.2 1, 4, .inl (nA Te))), (rS, .inl (E.2 1, 8, .inl (nA Si))), (rB, .inl (E.2 1, 8, .inl (nA Ba))), (rP, .inl (E.2 1, 8, .inl (nA Sm))), (rG, .inl (E.2 1, 8, .inl (nA Gr)))] := by rfl
  have hP9 : va_P E.1 vwCl [(m0, .inr (9, [.int (nI sh), .ref rO, .ref rU, .ref rT, .int (nI rg), .ref rS, .ref rB, .ref rP, .ref rG, .long (lN (tA (U (seN sh Si k) * (2 * (Gr (rgN sh k) * Gr (rgN sh k) - Sm (rgN sh k) * Sm (rgN sh k)))) (V (seN sh Si k) * (2 * Sm (rgN sh k) * Gr (rgN sh k))))), .long (lN (tB (U (seN sh Si k) * (2 * (Gr (rgN sh k) * Gr (rgN sh k) - Sm (rgN sh k) * Sm (rgN sh k)))) (V (seN sh Si k) * (2 * Sm (rgN sh k) * Gr (rgN sh k))))), .int mk, .ref rM, .int md, .ref rN, .ref rL, .ref rZ, .ref rE, .ref rI, .int hc, .ref rA, .ref rX, .int lnn, .ref rV, .ref rW, .int sl, .ref rC, .ref rF, .ref rQ, .ref rK, .ref rR, .ref rD])), (rO, .inl (E.2 2, 4, .inr (.inl (lA U)))), (rU, .inl (E.2 2, 4, .inr (.inl (lA V)))), (rT, .inl (E.2 1, 4, .inl (nA Te))), (rS, .inl (E.2 1, 8, .inl (nA Si))), (rB, .inl (E.2 1, 8, .inl (nA Ba))), (rP, .inl (E.2 1, 8, .inl (nA Sm))), (rG, .inl (E.2 1, 8, .inl (nA Gr)))] H := by rw [e9]; exact hP.sub [7, 0, 1, 2, 3, 4, 5, 6] rfl
  have hD9 : va_D A [(m0, .inr (9, [.int (nI sh), .ref rO, .ref rU, .ref rT, .int (nI rg), .ref rS, .ref rB, .ref rP, .ref rG, .long (lN (tA (U (seN sh Si k) * (2 * (Gr (rgN sh k) * Gr (rgN sh k) - Sm (rgN sh k) * Sm (rgN sh k)))) (V (seN sh Si k) * (2 * Sm (rgN sh k) * Gr (rgN sh k))))), .long (lN (tB (U (seN sh Si k) * (2 * (Gr (rgN sh k) * Gr (rgN sh k) - Sm (rgN sh k) * Sm (rgN sh k)))) (V (seN sh Si k) * (2 * Sm (rgN sh k) * Gr (rgN sh k))))), .int mk, .ref rM, .int md, .ref rN, .ref rL, .ref rZ, .ref rE, .ref rI, .int hc, .ref rA, .ref rX, .int lnn, .ref rV, .ref rW, .int sl, .ref rC, .ref rF, .ref rQ, .ref rK, .ref rR, .ref rD])), (rO, .inl (E.2 2, 4, .inr (.inl (lA U)))), (rU, .inl (E.2 2, 4, .inr (.inl (lA V)))), (rT, .inl (E.2 1, 4, .inl (nA Te))), (rS, .inl (E.2 1, 8, .inl (nA Si))), (rB, .inl (E.2 1, 8, .inl (nA Ba))), (rP, .inl (E.2 1, 8, .inl (nA Sm))), (rG, .inl (E.2 1, 8, .inl (nA Gr)))] := by rw [e9]; exact hD.sub [7, 0, 1, 2, 3, 4, 5, 6] (by decide) rfl
  exact W.vret hx hb hr (fun t9 ht9 hW9 => ⟨⟨(), rfl, trivial, ⟨by rw [ht9]; exact hP9, hD9⟩⟩, hS.F ht9⟩) hS.2.2 dX9_findTone_227
