/-! the model: marks -/
theorem frL_of {M : Nat → Nat} {L : List Nat} (h : RLs M L) (hl : 0 < L.length) : M (L.length - 1) = frL L := h _ (by omega)

set_option maxHeartbeats 1000000 in
set_option maxRecDepth 100000 in
theorem c_X9_addTurn (l : Launch) (E : EnvT) (sz : Nat) (m0 : Nat) (sh : Int32) (rO : Nat) (rU : Nat) (rT : Nat) (rg : Int32) (rS : Nat) (rB : Nat) (rP : Nat) (rG : Nat) (ab0 : Int64) (be0 : Int64) (mk : Int32) (rM : Nat) (rN : Nat) (rL : Nat) (rZ : Nat) (rE : Nat) (rI : Nat) (hc : Int32) (rA : Nat) (rX : Nat) (lnn : Int32) (rV : Nat) (rW : Nat) (sl : Int32) (rC : Nat) (rF : Nat) (rQ : Nat) (rK : Nat) (rR : Nat) (rD : Nat) (L : List Nat) (Tn : Nat → Nat) (x : Nat) (hR : RLs Tn L) (hL : L.length ≤ 120) : Met l yX9_addTurn wsX9_addTurn ({ frames := 0, cells := 0, slots := 0, locals := 0 }) (va_Pc [.ref m0, .int (nI x)] (PW E [(m0, .inr (9, [.int sh, .ref rO, .ref rU, .ref rT, .int rg, .ref rS, .ref rB, .ref rP, .ref rG, .long ab0, .long be0, .int mk, .ref rM, .int (nI L.length), .ref rN, .ref rL, .ref rZ, .ref rE, .ref rI, .int hc, .ref rA, .ref rX, .int lnn, .ref rV, .ref rW, .int sl, .ref rC, .ref rF, .ref rQ, .ref rK, .ref rR, .ref rD])), (rN, .inl (E.2 1, 120, .inl (nA Tn)))] sz)) (va_Qv (fun (uu : (Nat → Nat)) => RLs uu (kpL L x)) (fun (uu : (Nat → Nat)) t => BW E (va_A [(m0, .inr (9, [.int sh, .ref rO, .ref rU, .ref rT, .int rg, .ref rS, .ref rB, .ref rP, .ref rG, .long ab0, .long be0, .int mk, .ref rM, .int (nI L.length), .ref rN, .ref rL, .ref rZ, .ref rE, .ref rI, .int hc, .ref rA, .ref rX, .int lnn, .ref rV, .ref rW, .int sl, .ref rC, .ref rF, .ref rQ, .ref rK, .ref rR, .ref rD])), (rN, .inl (E.2 1, 120, .inl (nA Tn)))] sz) [(m0, .inr (9, [.int sh, .ref rO, .ref rU, .ref rT, .int rg, .ref rS, .ref rB, .ref rP, .ref rG, .long ab0, .long be0, .int mk, .ref rM, .int (nI (kpL L x).length), .ref rN, .ref rL, .ref rZ, .ref rE, .ref rI, .int hc, .ref rA, .ref rX, .int lnn, .ref rV, .ref rW, .int sl, .ref rC, .ref rF, .ref rQ, .ref rK, .ref rR, .ref rD])), (rN, .inl (E.2 1, 120, .inl (nA uu)))] t) (va_A [(m0, .inr (9, [.int sh, .ref rO, .ref rU, .ref rT, .int rg, .ref rS, .ref rB, .ref rP, .ref rG, .long ab0, .long be0, .int mk, .ref rM, .int (nI L.length), .ref rN, .ref rL, .ref rZ, .ref rE, .ref rI, .int hc, .ref rA, .ref rX, .int lnn, .ref rV, .ref rW, .int sl, .ref rC, .ref rF, .ref rQ, .ref rK, .ref rR, .ref rD])), (rN, .inl (E.2 1, 120, .inl (nA Tn)))] sz)) 0 0 (va_A [(m0, .inr (9, [.int sh, .ref rO, .ref rU, .ref rT, .int rg, .ref rS, .ref rB, .ref rP, .ref rG, .long ab0, .long be0, .int mk, .ref rM, .int (nI L.length), .ref rN, .ref rL, .ref rZ, .ref rE, .ref rI, .int hc, .ref rA, .ref rX, .int lnn, .ref rV, .ref rW, .int sl, .ref rC, .ref rF, .ref rQ, .ref rK, .ref rR, .ref rD])), (rN, .inl (E.2 1, 120, .inl (nA Tn)))] sz) := by
  refine Met.ofW (cc := cX9_addTurn) (maxL := 2) (ret := none) (by decide +kernel) rfl ?_
  intro p e s m args below meth c s₁ B hml hv
  obtain ⟨rfl, hsz, hP, hE, hD0⟩ := hv
  have hx := B.exec
  have hb := B.bytes
  have hr := B.returns
  have hts := atoms_spec (ws := wsX9_addTurn) B.pre
  have hown : s.vm.findClass RX9 = some m.cls := findClass_of_methodNamed B.named
  have hlocks := B.notSynchronized
  have hK := hE.1
  have hNN := hE.2.1
  have hinX9 : ∀ w ∈ wsX90, w ∈ wsX9_addTurn := fun w h => List.mem_cons_of_mem _ (List.mem_append_right _ h)
  subst hsz
  have hD := hD0.self (sz := s.heap.size)
  generalize hAe : va_A [(m0, .inr (9, [.int sh, .ref rO, .ref rU, .ref rT, .int rg, .ref rS, .ref rB, .ref rP, .ref rG, .long ab0, .long be0, .int mk, .ref rM, .int (nI L.length), .ref rN, .ref rL, .ref rZ, .ref rE, .ref rI, .int hc, .ref rA, .ref rX, .int lnn, .ref rV, .ref rW, .int sl, .ref rC, .ref rF, .ref rQ, .ref rK, .ref rR, .ref rD])), (rN, .inl (E.2 1, 120, .inl (nA Tn)))] s.heap.size = A at hD ⊢
  have hA : ∀ q : Nat, s.heap.size ≤ q → A q := fun q h => by rw [← hAe]; exact Or.inr h
  have hS : va_S A s.heap s.heap [] := va_S.rf
  have hl := lv_entry ([.ref m0, .int (nI x)]) (n := 2) (Nat.le_of_ble_eq_true rfl)
  rw [lg_entry_eq]
  generalize (lg_sl ([.ref m0, .int (nI x)]) ++ List.replicate (2 - (lg_sl ([.ref m0, .int (nI x)])).length) Slot.unset).toArray = ls at hl ⊢
  have hl : lv_has ls 2 [(0, .ref m0), (1, .int (nI x))] := hl
  refine lv_aload_n hx hb dX9_addTurn_0 rfl (lv_at hl 0 rfl) ?_
  refine va_get (D := E.1) (ci := 9) (v := .int (nI L.length)) (C := RX9) (T := TX9) (N := 32) hx hb hts hinX9 hown hK hP 0 rfl rfl 13 (by decide) (hts (.fieldLink RX9 151 "WornRingsModel" "mended" "I") (by decide +kernel)) (fun _ h9 => h9) rfl dX9_addTurn_1 ?_
  refine lv_bipush (v := 120) hx hb dX9_addTurn_4 (by decide) ?_
  refine lv_icmp_ge (tgt := 29) hx hb dX9_addTurn_6 (by decide) (fun c_6 => ?_) (fun c_6 => ?_)
  · have c_6 : 120 ≤ L.length := (nI_leI (a := 120) (b := L.length) (by omega) (by omega)).mp c_6
    have e9 : ([(m0, .inr (9, [.int sh, .ref rO, .ref rU, .ref rT, .int rg, .ref rS, .ref rB, .ref rP, .ref rG, .long ab0, .long be0, .int mk, .ref rM, .int (nI (kpL L x).length), .ref rN, .ref rL, .ref rZ, .ref rE, .ref rI, .int hc, .ref rA, .ref rX, .int lnn, .ref rV, .ref rW, .int sl, .ref rC, .ref rF, .ref rQ, .ref rK, .ref rR, .ref rD])), (rN, .inl (E.2 1, 120, .inl (nA Tn)))] : va_W) = [(m0, .inr (9, [.int sh, .ref rO, .ref rU, .ref rT, .int rg, .ref rS, .ref rB, .ref rP, .ref rG, .long ab0, .long be0, .int mk, .ref rM, .int (nI L.length), .ref rN, .ref rL, .ref rZ, .ref rE, .ref rI, .int hc, .ref rA, .ref rX, .int lnn, .ref rV, .ref rW, .int sl, .ref rC, .ref rF, .ref rQ, .ref rK, .ref rR, .ref rD])), (rN, .inl (E.2 1, 120, .inl (nA Tn)))] := by first | (rw [kpL, if_neg (by omega)]; done) | (rw [kpL, if_pos (by omega), List.length_append]; rfl)
    have hP9 : va_P E.1 vwCl [(m0, .inr (9, [.int sh, .ref rO, .ref rU, .ref rT, .int rg, .ref rS, .ref rB, .ref rP, .ref rG, .long ab0, .long be0, .int mk, .ref rM, .int (nI (kpL L x).length), .ref rN, .ref rL, .ref rZ, .ref rE, .ref rI, .int hc, .ref rA, .ref rX, .int lnn, .ref rV, .ref rW, .int sl, .ref rC, .ref rF, .ref rQ, .ref rK, .ref rR, .ref rD])), (rN, .inl (E.2 1, 120, .inl (nA Tn)))] s.heap := by rw [e9]; exact hP.sub [0, 1] rfl
    have hD9 : va_D A [(m0, .inr (9, [.int sh, .ref rO, .ref rU, .ref rT, .int rg, .ref rS, .ref rB, .ref rP, .ref rG, .long ab0, .long be0, .int mk, .ref rM, .int (nI (kpL L x).length), .ref rN, .ref rL, .ref rZ, .ref rE, .ref rI, .int hc, .ref rA, .ref rX, .int lnn, .ref rV, .ref rW, .int sl, .ref rC, .ref rF, .ref rQ, .ref rK, .ref rR, .ref rD])), (rN, .inl (E.2 1, 120, .inl (nA Tn)))] := by rw [e9]; exact hD.sub [0, 1] (by decide) rfl
    exact W.vret hx hb hr (fun t9 ht9 hW9 => ⟨⟨(Tn), rfl, by first | (rw [kpL, if_neg (by omega)]; exact hR) | (rw [kpL, if_pos (by omega)]; exact RLs_push hR), ⟨by rw [ht9]; exact hP9, hD9⟩⟩, hS.F ht9⟩) hS.2.2 dX9_addTurn_29
  · have c_6 : ¬ 120 ≤ L.length := fun h9 => c_6 ((nI_leI (a := 120) (b := L.length) (by omega) (by omega)).mpr h9)
    refine lv_aload_n hx hb dX9_addTurn_9 rfl (lv_at hl 0 rfl) ?_
    refine va_get (D := E.1) (ci := 9) (v := .ref rN) (C := RX9) (T := TX9) (N := 32) hx hb hts hinX9 hown hK hP 0 rfl rfl 14 (by decide) (hts (.fieldLink RX9 39 "WornRingsModel" "turns" "[I") (by decide +kernel)) (fun _ h9 => h9) rfl dX9_addTurn_10 ?_
    refine lv_aload_n hx hb dX9_addTurn_13 rfl (lv_at hl 0 rfl) ?_
    refine va_get (D := E.1) (ci := 9) (v := .int (nI L.length)) (C := RX9) (T := TX9) (N := 32) hx hb hts hinX9 hown hK hP 0 rfl rfl 13 (by decide) (hts (.fieldLink RX9 151 "WornRingsModel" "mended" "I") (by decide +kernel)) (fun _ h9 => h9) rfl dX9_addTurn_14 ?_
    refine lv_iload_n hx hb dX9_addTurn_17 rfl (lv_at hl 1 rfl) ?_
    refine va_iast hx hb hK hP hD hS 1 1 rfl rfl (vp_in_nI (by omega) (by omega)) dX9_addTurn_18 (fun H locs hP hD hS => ?_)
    rw [nI_clamp (n := L.length) (by omega)] at hP hD
    rw [show upd (nA Tn) L.length (nI x) = nA (updN Tn L.length x) from upd_nA _ _ _] at hP hD
    have hP : va_P E.1 vwCl [(m0, .inr (9, [.int sh, .ref rO, .ref rU, .ref rT, .int rg, .ref rS, .ref rB, .ref rP, .ref rG, .long ab0, .long be0, .int mk, .ref rM, .int (nI L.length), .ref rN, .ref rL, .ref rZ, .ref rE, .ref rI, .int hc, .ref rA, .ref rX, .int lnn, .ref rV, .ref rW, .int sl, .ref rC, .ref rF, .ref rQ, .ref rK, .ref rR, .ref rD])), (rN, .inl (E.2 1, 120, .inl (nA (updN Tn L.length x))))] H := hP
    have hD : va_D A [(m0, .inr (9, [.int sh, .ref rO, .ref rU, .ref rT, .int rg, .ref rS, .ref rB, .ref rP, .ref rG, .long ab0, .long be0, .int mk, .ref rM, .int (nI L.length), .ref rN, .ref rL, .ref rZ, .ref rE, .ref rI, .int hc, .ref rA, .ref rX, .int lnn, .ref rV, .ref rW, .int sl, .ref rC, .ref rF, .ref rQ, .ref rK, .ref rR, .ref rD])), (rN, .inl (E.2 1, 120, .inl (nA (updN Tn L.length x))))] := hD
    refine lv_aload_n hx hb dX9_addTurn_19 rfl (lv_at hl 0 rfl) ?_
    refine lv_dup hx hb dX9_addTurn_20 rfl ?_
    refine va_get (D := E.1) (ci := 9) (v := .int (nI L.length)) (C := RX9) (T := TX9) (N := 32) hx hb hts hinX9 hown hK hP 0 rfl rfl 13 (by decide) (hts (.fieldLink RX9 151 "WornRingsModel" "mended" "I") (by decide +kernel)) (fun _ h9 => h9) rfl dX9_addTurn_21 ?_
    refine lv_iconst (v := 1) hx hb dX9_addTurn_24 (by decide) ?_
    refine lv_iadd hx hb dX9_addTurn_25 ?_
    rw [show ((nI L.length) + (1 : Int32) : Int32) = nI (L.length + 1) from nI_add L.length 1]
    refine va_put (D := E.1) (ci := 9) (v := .int (nI (L.length + 1))) (ty := .int) (C := RX9) (T := TX9) (N := 32) hx hb hts hinX9 tyX9 tyX9_ok nmX9 hown hK hP hD hS 0 rfl rfl 13 (by decide) (hts (.fieldLink RX9 151 "WornRingsModel" "mended" "I") (by decide +kernel)) (fun _ h9 => h9) rfl (by decide +kernel) (rfl) (rfl) (Nat.le_of_ble_eq_true rfl) dX9_addTurn_26 (fun H locs hP hD hS => ?_)
    have hP : va_P E.1 vwCl [(m0, .inr (9, [.int sh, .ref rO, .ref rU, .ref rT, .int rg, .ref rS, .ref rB, .ref rP, .ref rG, .long ab0, .long be0, .int mk, .ref rM, .int (nI (L.length + 1)), .ref rN, .ref rL, .ref rZ, .ref rE, .ref rI, .int hc, .ref rA, .ref rX, .int lnn, .ref rV, .ref rW, .int sl, .ref rC, .ref rF, .ref rQ, .ref rK, .ref rR, .ref rD])), (rN, .inl (E.2 1, 120, .inl (nA (updN Tn L.length x))))] H := hP
    have hD : va_D A [(m0, .inr (9, [.int sh, .ref rO, .ref rU, .ref rT, .int rg, .ref rS, .ref rB, .ref rP, .ref rG, .long ab0, .long be0, .int mk, .ref rM, .int (nI (L.length + 1)), .ref rN, .ref rL, .ref rZ, .ref rE, .ref rI, .int hc, .ref rA, .ref rX, .int lnn, .ref rV, .ref rW, .int sl, .ref rC, .ref rF, .ref rQ, .ref rK, .ref rR, .ref rD])), (rN, .inl (E.2 1, 120, .inl (nA (updN Tn L.length x))))] := hD
    have e9 : ([(m0, .inr (9, [.int sh, .ref rO, .ref rU, .ref rT, .int rg, .ref rS, .ref rB, .ref rP, .ref rG, .long ab0, .long be0, .int mk, .ref rM, .int (nI (kpL L x).length), .ref rN, .ref rL, .ref rZ, .ref rE, .ref rI, .int hc, .ref rA, .ref rX, .int lnn, .ref rV, .ref rW, .int sl, .ref rC, .ref rF, .ref rQ, .ref rK, .ref rR, .ref rD])), (rN, .inl (E.2 1, 120, .inl (nA (updN Tn L.length x))))] : va_W) = [(m0, .inr (9, [.int sh, .ref rO, .ref rU, .ref rT, .int rg, .ref rS, .ref rB, .ref rP, .ref rG, .long ab0, .long be0, .int mk, .ref rM, .int (nI (L.length + 1)), .ref rN, .ref rL, .ref rZ, .ref rE, .ref rI, .int hc, .ref rA, .ref rX, .int lnn, .ref rV, .ref rW, .int sl, .ref rC, .ref rF, .ref rQ, .ref rK, .ref rR, .ref rD])), (rN, .inl (E.2 1, 120, .inl (nA (updN Tn L.length x))))] := by first | (rw [kpL, if_neg (by omega)]; done) | (rw [kpL, if_pos (by omega), List.length_append]; rfl)
    have hP9 : va_P E.1 vwCl [(m0, .inr (9, [.int sh, .ref rO, .ref rU, .ref rT, .int rg, .ref rS, .ref rB, .ref rP, .ref rG, .long ab0, .long be0, .int mk, .ref rM, .int (nI (kpL L x).length), .ref rN, .ref rL, .ref rZ, .ref rE, .ref rI, .int hc, .ref rA, .ref rX, .int lnn, .ref rV, .ref rW, .int sl, .ref rC, .ref rF, .ref rQ, .ref rK, .ref rR, .ref rD])), (rN, .inl (E.2 1, 120, .inl (nA (updN Tn L.length x))))] H := by rw [e9]; exact hP.sub [0, 1] rfl
    have hD9 : va_D A [(m0, .inr (9, [.int sh, .ref rO, .ref rU, .ref rT, .int rg, .ref rS, .ref rB, .ref rP, .ref rG, .long ab0, .long be0, .int mk, .ref rM, .int (nI (kpL L x).length), .ref rN, .ref rL, .ref rZ, .ref rE, .ref rI, .int hc, .ref rA, .ref rX, .int lnn, .ref rV, .ref rW, .int sl, .ref rC, .ref rF, .ref rQ, .ref rK, .ref rR, .ref rD])), (rN, .inl (E.2 1, 120, .inl (nA (updN Tn L.length x))))] := by rw [e9]; exact hD.sub [0, 1] (by decide) rfl
    exact W.vret hx hb hr (fun t9 ht9 hW9 => ⟨⟨((updN Tn L.length x)), rfl, by first | (rw [kpL, if_neg (by omega)]; exact hR) | (rw [kpL, if_pos (by omega)]; exact RLs_push hR), ⟨by rw [ht9]; exact hP9, hD9⟩⟩, hS.F ht9⟩) hS.2.2 dX9_addTurn_29
set_option maxHeartbeats 1000000 in
set_option maxRecDepth 100000 in
theorem c_X9_mend (l : Launch) (E : EnvT) (sz : Nat) (m0 : Nat) (sh : Int32) (rO : Nat) (rU : Nat) (rT : Nat) (rg : Int32) (rS : Nat) (rB : Nat) (rP : Nat) (rG : Nat) (ab0 : Int64) (be0 : Int64) (mk : Nat) (rM : Nat) (md : Int32) (rN : Nat) (rL : Nat) (rZ : Nat) (rE : Nat) (rI : Nat) (hc : Int32) (rA : Nat) (rX : Nat) (lnn : Int32) (rV : Nat) (rW : Nat) (sl : Int32) (rC : Nat) (rF : Nat) (rQ : Nat) (rK : Nat) (rR : Nat) (rD : Nat) (Ti : Nat → Nat) (Tn : Nat → Nat) (hmk : mk ≤ 60) (hti : ∀ j, j + 1 < mk → Ti j < Ti (j + 1)) (htb : ∀ j, j < mk → Ti j ≤ 1000000) : Met l yX9_mend wsX9_mend ({ frames := 1, cells := 0, slots := 0, locals := 21 }) (va_Pc [.ref m0] (PW E [(m0, .inr (9, [.int sh, .ref rO, .ref rU, .ref rT, .int rg, .ref rS, .ref rB, .ref rP, .ref rG, .long ab0, .long be0, .int (nI mk), .ref rM, .int md, .ref rN, .ref rL, .ref rZ, .ref rE, .ref rI, .int hc, .ref rA, .ref rX, .int lnn, .ref rV, .ref rW, .int sl, .ref rC, .ref rF, .ref rQ, .ref rK, .ref rR, .ref rD])), (rM, .inl (E.2 1, 60, .inl (nA Ti))), (rN, .inl (E.2 1, 120, .inl (nA Tn)))] sz)) (va_Qv (fun (uu : (Nat → Nat)) => RLs uu (adAll Ti mk)) (fun (uu : (Nat → Nat)) t => BW E (va_A [(m0, .inr (9, [.int sh, .ref rO, .ref rU, .ref rT, .int rg, .ref rS, .ref rB, .ref rP, .ref rG, .long ab0, .long be0, .int (nI mk), .ref rM, .int md, .ref rN, .ref rL, .ref rZ, .ref rE, .ref rI, .int hc, .ref rA, .ref rX, .int lnn, .ref rV, .ref rW, .int sl, .ref rC, .ref rF, .ref rQ, .ref rK, .ref rR, .ref rD])), (rM, .inl (E.2 1, 60, .inl (nA Ti))), (rN, .inl (E.2 1, 120, .inl (nA Tn)))] sz) [(m0, .inr (9, [.int sh, .ref rO, .ref rU, .ref rT, .int rg, .ref rS, .ref rB, .ref rP, .ref rG, .long ab0, .long be0, .int (nI mk), .ref rM, .int (nI (adAll Ti mk).length), .ref rN, .ref rL, .ref rZ, .ref rE, .ref rI, .int hc, .ref rA, .ref rX, .int lnn, .ref rV, .ref rW, .int sl, .ref rC, .ref rF, .ref rQ, .ref rK, .ref rR, .ref rD])), (rM, .inl (E.2 1, 60, .inl (nA Ti))), (rN, .inl (E.2 1, 120, .inl (nA uu)))] t) (va_A [(m0, .inr (9, [.int sh, .ref rO, .ref rU, .ref rT, .int rg, .ref rS, .ref rB, .ref rP, .ref rG, .long ab0, .long be0, .int (nI mk), .ref rM, .int md, .ref rN, .ref rL, .ref rZ, .ref rE, .ref rI, .int hc, .ref rA, .ref rX, .int lnn, .ref rV, .ref rW, .int sl, .ref rC, .ref rF, .ref rQ, .ref rK, .ref rR, .ref rD])), (rM, .inl (E.2 1, 60, .inl (nA Ti))), (rN, .inl (E.2 1, 120, .inl (nA Tn)))] sz)) 0 0 (va_A [(m0, .inr (9, [.int sh, .ref rO, .ref rU, .ref rT, .int rg, .ref rS, .ref rB, .ref rP, .ref rG, .long ab0, .long be0, .int (nI mk), .ref rM, .int md, .ref rN, .ref rL, .ref rZ, .ref rE, .ref rI, .int hc, .ref rA, .ref rX, .int lnn, .ref rV, .ref rW, .int sl, .ref rC, .ref rF, .ref rQ, .ref rK, .ref rR, .ref rD])), (rM, .inl (E.2 1, 60, .inl (nA Ti))), (rN, .inl (E.2 1, 120, .inl (nA Tn)))] sz) := by
  refine Met.ofW (cc := cX9_mend) (maxL := 11) (ret := none) (by decide +kernel) rfl ?_
  intro p e s m args below meth c s₁ B hml hv
  obtain ⟨rfl, hsz, hP, hE, hD0⟩ := hv
  have hx := B.exec
  have hb := B.bytes
  have hr := B.returns
  have hts := atoms_spec (ws := wsX9_mend) B.pre
  have hown : s.vm.findClass RX9 = some m.cls := findClass_of_methodNamed B.named
  have hlocks := B.notSynchronized
  have hK := hE.1
  have hNN := hE.2.1
  have hinX9 : ∀ w ∈ wsX90, w ∈ wsX9_mend := fun w h => List.mem_cons_of_mem _ (List.mem_append_right _ h)
  subst hsz
  have hD := hD0.self (sz := s.heap.size)
  generalize hAe : va_A [(m0, .inr (9, [.int sh, .ref rO, .ref rU, .ref rT, .int rg, .ref rS, .ref rB, .ref rP, .ref rG, .long ab0, .long be0, .int (nI mk), .ref rM, .int md, .ref rN, .ref rL, .ref rZ, .ref rE, .ref rI, .int hc, .ref rA, .ref rX, .int lnn, .ref rV, .ref rW, .int sl, .ref rC, .ref rF, .ref rQ, .ref rK, .ref rR, .ref rD])), (rM, .inl (E.2 1, 60, .inl (nA Ti))), (rN, .inl (E.2 1, 120, .inl (nA Tn)))] s.heap.size = A at hD ⊢
  have hA : ∀ q : Nat, s.heap.size ≤ q → A q := fun q h => by rw [← hAe]; exact Or.inr h
  have hS : va_S A s.heap s.heap [] := va_S.rf
  have hl := lv_entry ([.ref m0]) (n := 11) (Nat.le_of_ble_eq_true rfl)
  rw [lg_entry_eq]
  generalize (lg_sl ([.ref m0]) ++ List.replicate (11 - (lg_sl ([.ref m0])).length) Slot.unset).toArray = ls at hl ⊢
  have hl : lv_has ls 11 [(0, .ref m0)] := hl
  refine lv_aload_n hx hb dX9_mend_0 rfl (lv_at hl 0 rfl) ?_
  refine lv_iconst (v := 0) hx hb dX9_mend_1 (by decide) ?_
  refine va_put (D := E.1) (ci := 9) (v := .int 0) (ty := .int) (C := RX9) (T := TX9) (N := 32) hx hb hts hinX9 tyX9 tyX9_ok nmX9 hown hK hP hD hS 0 rfl rfl 13 (by decide) (hts (.fieldLink RX9 151 "WornRingsModel" "mended" "I") (by decide +kernel)) (fun _ h9 => h9) rfl (by decide +kernel) (rfl) (rfl) (Nat.le_of_ble_eq_true rfl) dX9_mend_2 (fun H locs hP hD hS => ?_)
  have hP : va_P E.1 vwCl [(m0, .inr (9, [.int sh, .ref rO, .ref rU, .ref rT, .int rg, .ref rS, .ref rB, .ref rP, .ref rG, .long ab0, .long be0, .int (nI mk), .ref rM, .int 0, .ref rN, .ref rL, .ref rZ, .ref rE, .ref rI, .int hc, .ref rA, .ref rX, .int lnn, .ref rV, .ref rW, .int sl, .ref rC, .ref rF, .ref rQ, .ref rK, .ref rR, .ref rD])), (rM, .inl (E.2 1, 60, .inl (nA Ti))), (rN, .inl (E.2 1, 120, .inl (nA Tn)))] H := hP
  have hD : va_D A [(m0, .inr (9, [.int sh, .ref rO, .ref rU, .ref rT, .int rg, .ref rS, .ref rB, .ref rP, .ref rG, .long ab0, .long be0, .int (nI mk), .ref rM, .int 0, .ref rN, .ref rL, .ref rZ, .ref rE, .ref rI, .int hc, .ref rA, .ref rX, .int lnn, .ref rV, .ref rW, .int sl, .ref rC, .ref rF, .ref rQ, .ref rK, .ref rR, .ref rD])), (rM, .inl (E.2 1, 60, .inl (nA Ti))), (rN, .inl (E.2 1, 120, .inl (nA Tn)))] := hD
  refine lv_iconst (v := 0) hx hb dX9_mend_5 (by decide) ?_
  refine lv_istore_n (lv' := [(1, .int 0), (0, .ref m0)]) hx hb dX9_mend_6 rfl hl (by decide) rfl (fun ls hl => ?_)
  refine (fun (lp7 : ∀ (n9 : Nat) (k : Nat) (Tn : Nat → Nat) (H : Heap) (locs : List Loc) (ls : Array Slot), (mk - k) < n9 → (k ≤ mk) → (RLs Tn (adAll Ti k)) → va_P E.1 vwCl [(m0, .inr (9, [.int sh, .ref rO, .ref rU, .ref rT, .int rg, .ref rS, .ref rB, .ref rP, .ref rG, .long ab0, .long be0, .int (nI mk), .ref rM, .int (nI (adAll Ti k).length), .ref rN, .ref rL, .ref rZ, .ref rE, .ref rI, .int hc, .ref rA, .ref rX, .int lnn, .ref rV, .ref rW, .int sl, .ref rC, .ref rF, .ref rQ, .ref rK, .ref rR, .ref rD])), (rM, .inl (E.2 1, 60, .inl (nA Ti))), (rN, .inl (E.2 1, 120, .inl (nA Tn)))] H → va_D A [(m0, .inr (9, [.int sh, .ref rO, .ref rU, .ref rT, .int rg, .ref rS, .ref rB, .ref rP, .ref rG, .long ab0, .long be0, .int (nI mk), .ref rM, .int (nI (adAll Ti k).length), .ref rN, .ref rL, .ref rZ, .ref rE, .ref rI, .int hc, .ref rA, .ref rX, .int lnn, .ref rV, .ref rW, .int sl, .ref rC, .ref rF, .ref rQ, .ref rK, .ref rR, .ref rD])), (rM, .inl (E.2 1, 60, .inl (nA Ti))), (rN, .inl (E.2 1, 120, .inl (nA Tn)))] → va_S A s.heap H locs → lv_has ls 11 [(0, .ref m0), (1, .int (nI k))] → W p l e _ s m _ below meth c H locs _ _ _ (F0 m 7 ls [])) => lp7 (mk + 1) 0 Tn _ _ _ (by omega) (by omega) (fun j h9 => absurd h9 (Nat.not_lt_zero j)) (hP.sub [0, 1, 2] rfl) (hD.sub [0, 1, 2] (by decide) rfl) hS (lv_sub hl [1, 0] rfl)) ?_
  intro n7
  induction n7 with
  | zero => intro k Tn H locs ls h0; exact absurd (by assumption) (Nat.not_lt_zero _)
  | succ n7 ih7 =>
    intro k Tn H locs ls hmu7 hk hR hP hD hS hl
    obtain ⟨i1, i2, i3, i4, i5, i6⟩ := adAll_inv (Ti := Ti) k (fun j hj => hti j (by omega))
    refine lv_iload_n hx hb dX9_mend_7 rfl (lv_at hl 1 rfl) ?_
    refine lv_aload_n hx hb dX9_mend_8 rfl (lv_at hl 0 rfl) ?_
    refine va_get (D := E.1) (ci := 9) (v := .int (nI mk)) (C := RX9) (T := TX9) (N := 32) hx hb hts hinX9 hown hK hP 0 rfl rfl 11 (by decide) (hts (.fieldLink RX9 148 "WornRingsModel" "marks" "I") (by decide +kernel)) (fun _ h9 => h9) rfl dX9_mend_9 ?_
    refine lv_icmp_ge (tgt := 177) hx hb dX9_mend_12 (by decide) (fun c_12 => ?_) (fun c_12 => ?_)
    · have c_12 : mk ≤ k := (nI_leI (a := mk) (b := k) (by omega) (by omega)).mp c_12
      have e177 : adAll Ti mk = adAll Ti k := by
        first
          | rw [show mk = k by omega]
          | (have h9 := adAll_full (Ti := Ti) (i := k) (by omega) (mk - k)
             rwa [show k + (mk - k) = mk by omega] at h9)
      have e9 : ([(m0, .inr (9, [.int sh, .ref rO, .ref rU, .ref rT, .int rg, .ref rS, .ref rB, .ref rP, .ref rG, .long ab0, .long be0, .int (nI mk), .ref rM, .int (nI (adAll Ti mk).length), .ref rN, .ref rL, .ref rZ, .ref rE, .ref rI, .int hc, .ref rA, .ref rX, .int lnn, .ref rV, .ref rW, .int sl, .ref rC, .ref rF, .ref rQ, .ref rK, .ref rR, .ref rD])), (rM, .inl (E.2 1, 60, .inl (nA Ti))), (rN, .inl (E.2 1, 120, .inl (nA Tn)))] : va_W) = [(m0, .inr (9, [.int sh, .ref rO, .ref rU, .ref rT, .int rg, .ref rS, .ref rB, .ref rP, .ref rG, .long ab0, .long be0, .int (nI mk), .ref rM, .int (nI (adAll Ti k).length), .ref rN, .ref rL, .ref rZ, .ref rE, .ref rI, .int hc, .ref rA, .ref rX, .int lnn, .ref rV, .ref rW, .int sl, .ref rC, .ref rF, .ref rQ, .ref rK, .ref rR, .ref rD])), (rM, .inl (E.2 1, 60, .inl (nA Ti))), (rN, .inl (E.2 1, 120, .inl (nA Tn)))] := by rw [e177]
      have hP9 : va_P E.1 vwCl [(m0, .inr (9, [.int sh, .ref rO, .ref rU, .ref rT, .int rg, .ref rS, .ref rB, .ref rP, .ref rG, .long ab0, .long be0, .int (nI mk), .ref rM, .int (nI (adAll Ti mk).length), .ref rN, .ref rL, .ref rZ, .ref rE, .ref rI, .int hc, .ref rA, .ref rX, .int lnn, .ref rV, .ref rW, .int sl, .ref rC, .ref rF, .ref rQ, .ref rK, .ref rR, .ref rD])), (rM, .inl (E.2 1, 60, .inl (nA Ti))), (rN, .inl (E.2 1, 120, .inl (nA Tn)))] H := by rw [e9]; exact hP.sub [0, 1, 2] rfl
      have hD9 : va_D A [(m0, .inr (9, [.int sh, .ref rO, .ref rU, .ref rT, .int rg, .ref rS, .ref rB, .ref rP, .ref rG, .long ab0, .long be0, .int (nI mk), .ref rM, .int (nI (adAll Ti mk).length), .ref rN, .ref rL, .ref rZ, .ref rE, .ref rI, .int hc, .ref rA, .ref rX, .int lnn, .ref rV, .ref rW, .int sl, .ref rC, .ref rF, .ref rQ, .ref rK, .ref rR, .ref rD])), (rM, .inl (E.2 1, 60, .inl (nA Ti))), (rN, .inl (E.2 1, 120, .inl (nA Tn)))] := by rw [e9]; exact hD.sub [0, 1, 2] (by decide) rfl
      exact W.vret hx hb hr (fun t9 ht9 hW9 => ⟨⟨(Tn), rfl, by rw [e177]; exact hR, ⟨by rw [ht9]; exact hP9, hD9⟩⟩, hS.F ht9⟩) hS.2.2 dX9_mend_177
    · have c_12 : ¬ mk ≤ k := fun h9 => c_12 ((nI_leI (a := mk) (b := k) (by omega) (by omega)).mpr h9)
      refine lv_aload_n hx hb dX9_mend_15 rfl (lv_at hl 0 rfl) ?_
      refine va_get (D := E.1) (ci := 9) (v := .int (nI (adAll Ti k).length)) (C := RX9) (T := TX9) (N := 32) hx hb hts hinX9 hown hK hP 0 rfl rfl 13 (by decide) (hts (.fieldLink RX9 151 "WornRingsModel" "mended" "I") (by decide +kernel)) (fun _ h9 => h9) rfl dX9_mend_16 ?_
      refine lv_bipush (v := 120) hx hb dX9_mend_19 (by decide) ?_
      refine lv_icmp_ge (tgt := 177) hx hb dX9_mend_21 (by decide) (fun c_21 => ?_) (fun c_21 => ?_)
      · have c_21 : 120 ≤ ((adAll Ti k).length) := (nI_leI (a := 120) (b := (adAll Ti k).length) (by omega) (by omega)).mp c_21
        have e177 : adAll Ti mk = adAll Ti k := by
          first
            | rw [show mk = k by omega]
            | (have h9 := adAll_full (Ti := Ti) (i := k) (by omega) (mk - k)
               rwa [show k + (mk - k) = mk by omega] at h9)
        have e9 : ([(m0, .inr (9, [.int sh, .ref rO, .ref rU, .ref rT, .int rg, .ref rS, .ref rB, .ref rP, .ref rG, .long ab0, .long be0, .int (nI mk), .ref rM, .int (nI (adAll Ti mk).length), .ref rN, .ref rL, .ref rZ, .ref rE, .ref rI, .int hc, .ref rA, .ref rX, .int lnn, .ref rV, .ref rW, .int sl, .ref rC, .ref rF, .ref rQ, .ref rK, .ref rR, .ref rD])), (rM, .inl (E.2 1, 60, .inl (nA Ti))), (rN, .inl (E.2 1, 120, .inl (nA Tn)))] : va_W) = [(m0, .inr (9, [.int sh, .ref rO, .ref rU, .ref rT, .int rg, .ref rS, .ref rB, .ref rP, .ref rG, .long ab0, .long be0, .int (nI mk), .ref rM, .int (nI (adAll Ti k).length), .ref rN, .ref rL, .ref rZ, .ref rE, .ref rI, .int hc, .ref rA, .ref rX, .int lnn, .ref rV, .ref rW, .int sl, .ref rC, .ref rF, .ref rQ, .ref rK, .ref rR, .ref rD])), (rM, .inl (E.2 1, 60, .inl (nA Ti))), (rN, .inl (E.2 1, 120, .inl (nA Tn)))] := by rw [e177]
        have hP9 : va_P E.1 vwCl [(m0, .inr (9, [.int sh, .ref rO, .ref rU, .ref rT, .int rg, .ref rS, .ref rB, .ref rP, .ref rG, .long ab0, .long be0, .int (nI mk), .ref rM, .int (nI (adAll Ti mk).length), .ref rN, .ref rL, .ref rZ, .ref rE, .ref rI, .int hc, .ref rA, .ref rX, .int lnn, .ref rV, .ref rW, .int sl, .ref rC, .ref rF, .ref rQ, .ref rK, .ref rR, .ref rD])), (rM, .inl (E.2 1, 60, .inl (nA Ti))), (rN, .inl (E.2 1, 120, .inl (nA Tn)))] H := by rw [e9]; exact hP.sub [0, 1, 2] rfl
        have hD9 : va_D A [(m0, .inr (9, [.int sh, .ref rO, .ref rU, .ref rT, .int rg, .ref rS, .ref rB, .ref rP, .ref rG, .long ab0, .long be0, .int (nI mk), .ref rM, .int (nI (adAll Ti mk).length), .ref rN, .ref rL, .ref rZ, .ref rE, .ref rI, .int hc, .ref rA, .ref rX, .int lnn, .ref rV, .ref rW, .int sl, .ref rC, .ref rF, .ref rQ, .ref rK, .ref rR, .ref rD])), (rM, .inl (E.2 1, 60, .inl (nA Ti))), (rN, .inl (E.2 1, 120, .inl (nA Tn)))] := by rw [e9]; exact hD.sub [0, 1, 2] (by decide) rfl
        exact W.vret hx hb hr (fun t9 ht9 hW9 => ⟨⟨(Tn), rfl, by rw [e177]; exact hR, ⟨by rw [ht9]; exact hP9, hD9⟩⟩, hS.F ht9⟩) hS.2.2 dX9_mend_177
      · have c_21 : ¬ 120 ≤ ((adAll Ti k).length) := fun h9 => c_21 ((nI_leI (a := 120) (b := (adAll Ti k).length) (by omega) (by omega)).mpr h9)
        have htk := htb k (by omega)
        refine lv_iload_n hx hb dX9_mend_24 rfl (lv_at hl 1 rfl) ?_
        refine lv_iconst (v := 1) hx hb dX9_mend_25 (by decide) ?_
        refine lv_icmp_le (tgt := 161) hx hb dX9_mend_26 (by decide) (fun c_26 => ?_) (fun c_26 => ?_)
        · have c_26 : k ≤ 1 := (nI_leI (a := k) (b := 1) (by omega) (by omega)).mp c_26
          have eMd : mdL (adAll Ti k) (Ti k) = adAll Ti k := by
            first
              | exact if_pos (Or.inl (by have h9 := i5 (by omega); omega))
              | (have ew : wyL (adAll Ti k) = w := by rw [wyL, ← e1, ← e2, hw, hfr]
                 have ef : frL (adAll Ti k) = fr := by rw [← e1, hfr]
                 rw [mdL, if_neg (by omega), if_pos (by rw [ew, ef]; omega)])
          have eAd : adAll Ti (k + 1) = kpL (adAll Ti k) (Ti k) := by show kpL (mdL (adAll Ti k) (Ti k)) (Ti k) = _; rw [eMd]
          refine lv_aload_n hx hb dX9_mend_161 rfl (lv_at hl 0 rfl) ?_
          refine lv_aload_n hx hb dX9_mend_162 rfl (lv_at hl 0 rfl) ?_
          refine va_get (D := E.1) (ci := 9) (v := .ref rM) (C := RX9) (T := TX9) (N := 32) hx hb hts hinX9 hown hK hP 0 rfl rfl 12 (by decide) (hts (.fieldLink RX9 36 "WornRingsModel" "times" "[I") (by decide +kernel)) (fun _ h9 => h9) rfl dX9_mend_163 ?_
          refine lv_iload_n hx hb dX9_mend_166 rfl (lv_at hl 1 rfl) ?_
          refine va_iald hx hb hK hP 1 1 rfl rfl (vp_in_nI (by omega) (by omega)) dX9_mend_167 ?_
          rw [nI_clamp (n := k) (by omega)]
          refine W.eq (g2 := F0 m 168 ls [.int (nI (Ti k)), .ref m0]) rfl ?_
          refine wVv (wr := [(rM, .inl (E.2 1, 60, .inl (nA Ti)))]) hE ⟨hx, hb, hml, hown, hts⟩ (c_X9_addTurn l E H.size m0 sh rO rU rT rg rS rB rP rG ab0 be0 (nI mk) rM rN rL rZ rE rI hc rA rX lnn rV rW sl rC rF rQ rK rR rD (adAll Ti k) Tn (Ti k) (hR) (i2)) (cwV 1 hts gX9_mend_X9_addTurn rfl rfl rfl (by decide +kernel) ⟨Nat.le_of_ble_eq_true rfl, Nat.le_of_ble_eq_true rfl⟩) hP hD hS hA [0, 2] [1] rfl rfl (by decide) (by decide) (by decide) 0 9 rfl rfl rfl hl.1 rfl (Nat.le_of_ble_eq_true rfl) dX9_mend_168 ⟨(Nat.zero_le _), (Nat.zero_le _)⟩ (fun u H locs hw hP hD hS => ?_)
          obtain ⟨T2_168, rfl⟩ : ∃ z, z = u := ⟨_, rfl⟩
          have hP : va_P E.1 vwCl [(rM, .inl (E.2 1, 60, .inl (nA Ti))), (m0, .inr (9, [.int sh, .ref rO, .ref rU, .ref rT, .int rg, .ref rS, .ref rB, .ref rP, .ref rG, .long ab0, .long be0, .int (nI mk), .ref rM, .int (nI (kpL (adAll Ti k) (Ti k)).length), .ref rN, .ref rL, .ref rZ, .ref rE, .ref rI, .int hc, .ref rA, .ref rX, .int lnn, .ref rV, .ref rW, .int sl, .ref rC, .ref rF, .ref rQ, .ref rK, .ref rR, .ref rD])), (rN, .inl (E.2 1, 120, .inl (nA T2_168)))] H := hP
          have hD : va_D A [(rM, .inl (E.2 1, 60, .inl (nA Ti))), (m0, .inr (9, [.int sh, .ref rO, .ref rU, .ref rT, .int rg, .ref rS, .ref rB, .ref rP, .ref rG, .long ab0, .long be0, .int (nI mk), .ref rM, .int (nI (kpL (adAll Ti k) (Ti k)).length), .ref rN, .ref rL, .ref rZ, .ref rE, .ref rI, .int hc, .ref rA, .ref rX, .int lnn, .ref rV, .ref rW, .int sl, .ref rC, .ref rF, .ref rQ, .ref rK, .ref rR, .ref rD])), (rN, .inl (E.2 1, 120, .inl (nA T2_168)))] := hD
          have hm_168 := hw
          refine lv_iinc (v := nI (k + 1)) (lv' := [(1, .int (nI (k + 1))), (0, .ref m0)]) hx hb dX9_mend_171 hl (k := 1) rfl (nI_add k 1) (by decide) rfl (fun ls hl => ?_)
          refine lv_goto (tgt := 7) hx hb dX9_mend_174 (by decide) ?_
          exact ih7 (k + 1) T2_168 _ _ _ (by omega) (by omega) (eAd ▸ hm_168) (by rw [eAd]; exact hP.sub [1, 0, 2] rfl) (by rw [eAd]; exact hD.sub [1, 0, 2] (by decide) rfl) hS (lv_sub hl [1, 0] rfl)
        · have c_26 : ¬ k ≤ 1 := fun h9 => c_26 ((nI_leI (a := k) (b := 1) (by omega) (by omega)).mpr h9)
          have l2 := i6 (by omega)
          have h1 : Tn ((adAll Ti k).length - 2) < Tn ((adAll Ti k).length - 1) := by
            rw [hR _ (by omega), hR _ (by omega)]; exact SPw_lt i1 (by omega) (by omega)
          have e1 : Tn ((adAll Ti k).length - 1) = frL (adAll Ti k) := hR _ (by omega)
          have e2 : Tn ((adAll Ti k).length - 2) = (adAll Ti k).getD ((adAll Ti k).length - 2) 0 := hR _ (by omega)
          have e3 := (i4 (by omega) (by omega)).2
          have h2 : Tn ((adAll Ti k).length - 1) < Ti k := by
            rw [e1, e3]; have h9 := hti (k - 1) (by omega); rwa [show k - 1 + 1 = k by omega] at h9
          refine lv_aload_n hx hb dX9_mend_29 rfl (lv_at hl 0 rfl) ?_
          refine va_get (D := E.1) (ci := 9) (v := .ref rN) (C := RX9) (T := TX9) (N := 32) hx hb hts hinX9 hown hK hP 0 rfl rfl 14 (by decide) (hts (.fieldLink RX9 39 "WornRingsModel" "turns" "[I") (by decide +kernel)) (fun _ h9 => h9) rfl dX9_mend_30 ?_
          refine lv_aload_n hx hb dX9_mend_33 rfl (lv_at hl 0 rfl) ?_
          refine va_get (D := E.1) (ci := 9) (v := .int (nI (adAll Ti k).length)) (C := RX9) (T := TX9) (N := 32) hx hb hts hinX9 hown hK hP 0 rfl rfl 13 (by decide) (hts (.fieldLink RX9 151 "WornRingsModel" "mended" "I") (by decide +kernel)) (fun _ h9 => h9) rfl dX9_mend_34 ?_
          refine lv_iconst (v := 1) hx hb dX9_mend_37 (by decide) ?_
          refine lv_isub hx hb dX9_mend_38 ?_
          rw [show ((nI (adAll Ti k).length) - (1 : Int32) : Int32) = nI (((adAll Ti k).length) - 1) from pk_sub (a := ((adAll Ti k).length)) (b := 1) (by omega)]
          refine va_iald hx hb hK hP 2 1 rfl rfl (vp_in_nI (by omega) (by omega)) dX9_mend_39 ?_
          rw [nI_clamp (n := ((adAll Ti k).length) - 1) (by omega)]
          refine W.eq (g2 := F0 m 40 ls [.int (nI (Tn (((adAll Ti k).length) - 1)))]) rfl ?_
          obtain ⟨fr, hfr⟩ : ∃ z, z = Tn (((adAll Ti k).length) - 1) := ⟨_, rfl⟩
          rw [← hfr]
          refine lv_istore_n (lv' := [(2, .int (nI fr)), (0, .ref m0), (1, .int (nI k))]) hx hb dX9_mend_40 rfl hl (by decide) rfl (fun ls hl => ?_)
          refine lv_iload_n hx hb dX9_mend_41 rfl (lv_at hl 0 rfl) ?_
          refine lv_aload_n hx hb dX9_mend_42 rfl (lv_at hl 1 rfl) ?_
          refine va_get (D := E.1) (ci := 9) (v := .ref rN) (C := RX9) (T := TX9) (N := 32) hx hb hts hinX9 hown hK hP 0 rfl rfl 14 (by decide) (hts (.fieldLink RX9 39 "WornRingsModel" "turns" "[I") (by decide +kernel)) (fun _ h9 => h9) rfl dX9_mend_43 ?_
          refine lv_aload_n hx hb dX9_mend_46 rfl (lv_at hl 1 rfl) ?_
          refine va_get (D := E.1) (ci := 9) (v := .int (nI (adAll Ti k).length)) (C := RX9) (T := TX9) (N := 32) hx hb hts hinX9 hown hK hP 0 rfl rfl 13 (by decide) (hts (.fieldLink RX9 151 "WornRingsModel" "mended" "I") (by decide +kernel)) (fun _ h9 => h9) rfl dX9_mend_47 ?_
          refine lv_iconst (v := 2) hx hb dX9_mend_50 (by decide) ?_
          refine lv_isub hx hb dX9_mend_51 ?_
          rw [show ((nI (adAll Ti k).length) - (2 : Int32) : Int32) = nI (((adAll Ti k).length) - 2) from pk_sub (a := ((adAll Ti k).length)) (b := 2) (by omega)]
          refine va_iald hx hb hK hP 2 1 rfl rfl (vp_in_nI (by omega) (by omega)) dX9_mend_52 ?_
          rw [nI_clamp (n := ((adAll Ti k).length) - 2) (by omega)]
          refine W.eq (g2 := F0 m 53 ls [.int (nI (Tn (((adAll Ti k).length) - 2))), .int (nI fr)]) rfl ?_
          refine lv_isub hx hb dX9_mend_53 ?_
          rw [show ((nI fr) - (nI (Tn (((adAll Ti k).length) - 2))) : Int32) = nI (fr - (Tn (((adAll Ti k).length) - 2))) from pk_sub (a := fr) (b := (Tn (((adAll Ti k).length) - 2))) (by omega)]
          refine lv_i2l (v := lN (fr - (Tn (((adAll Ti k).length) - 2)))) hx hb dX9_mend_54 (nI_l (by omega)) ?_
          obtain ⟨w, hw⟩ : ∃ z, z = fr - (Tn (((adAll Ti k).length) - 2)) := ⟨_, rfl⟩
          rw [← hw]
          refine lv_lstore_n (lv' := [(3, .long (lN w)), (2, .int (nI fr)), (0, .ref m0), (1, .int (nI k))]) hx hb dX9_mend_55 rfl hl (by decide) rfl (fun ls hl => ?_)
          refine lv_aload_n hx hb dX9_mend_56 rfl (lv_at hl 2 rfl) ?_
          refine va_get (D := E.1) (ci := 9) (v := .ref rM) (C := RX9) (T := TX9) (N := 32) hx hb hts hinX9 hown hK hP 0 rfl rfl 12 (by decide) (hts (.fieldLink RX9 36 "WornRingsModel" "times" "[I") (by decide +kernel)) (fun _ h9 => h9) rfl dX9_mend_57 ?_
          refine lv_iload_n hx hb dX9_mend_60 rfl (lv_at hl 3 rfl) ?_
          refine va_iald hx hb hK hP 1 1 rfl rfl (vp_in_nI (by omega) (by omega)) dX9_mend_61 ?_
          rw [nI_clamp (n := k) (by omega)]
          refine W.eq (g2 := F0 m 62 ls [.int (nI (Ti k))]) rfl ?_
          refine lv_iload_n hx hb dX9_mend_62 rfl (lv_at hl 1 rfl) ?_
          refine lv_isub hx hb dX9_mend_63 ?_
          rw [show ((nI (Ti k)) - (nI fr) : Int32) = nI ((Ti k) - fr) from pk_sub (a := (Ti k)) (b := fr) (by omega)]
          refine lv_i2l (v := lN ((Ti k) - fr)) hx hb dX9_mend_64 (nI_l (by omega)) ?_
          obtain ⟨way, hway⟩ : ∃ z, z = (Ti k) - fr := ⟨_, rfl⟩
          rw [← hway]
          refine lv_lstore (lv' := [(5, .long (lN way)), (3, .long (lN w)), (2, .int (nI fr)), (0, .ref m0), (1, .int (nI k))]) hx hb dX9_mend_65 hl (by decide) rfl (fun ls hl => ?_)
          refine lv_ldc2 (v := 2) hx hb hown (hts (.constantLong RX9 140 (2)) (by decide +kernel)) dX9_mend_67 ?_
          refine lv_lload hx hb dX9_mend_70 (lv_at hl 0 rfl) ?_
          refine lv_lmul hx hb dX9_mend_72 ?_
          rw [show ((2 : Int64) * (lN way) : Int64) = lN (2 * way) from lN_mul 2 way]
          refine lv_ldc2 (v := 3) hx hb hown (hts (.constantLong RX9 108 (3)) (by decide +kernel)) dX9_mend_73 ?_
          refine lv_lload_n hx hb dX9_mend_76 rfl (lv_at hl 1 rfl) ?_
          refine lv_lmul hx hb dX9_mend_77 ?_
          rw [show ((3 : Int64) * (lN w) : Int64) = lN (3 * w) from lN_mul 3 w]
          refine W.lcmp hx hb dX9_mend_78 ?_
          refine lv_if_le (tgt := 161) hx hb dX9_mend_79 (by decide) (fun c_79 => ?_) (fun c_79 => ?_)
          · have c_79 := lc_le c_79
            have c_79 : (2 * way) ≤ (3 * w) := (pk_lLE (a := 2 * way) (b := 3 * w) (by omega) (by omega)).mp c_79
            have eMd : mdL (adAll Ti k) (Ti k) = adAll Ti k := by
              first
                | exact if_pos (Or.inl (by have h9 := i5 (by omega); omega))
                | (have ew : wyL (adAll Ti k) = w := by rw [wyL, ← e1, ← e2, hw, hfr]
                   have ef : frL (adAll Ti k) = fr := by rw [← e1, hfr]
                   rw [mdL, if_neg (by omega), if_pos (by rw [ew, ef]; omega)])
            have eAd : adAll Ti (k + 1) = kpL (adAll Ti k) (Ti k) := by show kpL (mdL (adAll Ti k) (Ti k)) (Ti k) = _; rw [eMd]
            refine lv_aload_n hx hb dX9_mend_161 rfl (lv_at hl 3 rfl) ?_
            refine lv_aload_n hx hb dX9_mend_162 rfl (lv_at hl 3 rfl) ?_
            refine va_get (D := E.1) (ci := 9) (v := .ref rM) (C := RX9) (T := TX9) (N := 32) hx hb hts hinX9 hown hK hP 0 rfl rfl 12 (by decide) (hts (.fieldLink RX9 36 "WornRingsModel" "times" "[I") (by decide +kernel)) (fun _ h9 => h9) rfl dX9_mend_163 ?_
            refine lv_iload_n hx hb dX9_mend_166 rfl (lv_at hl 4 rfl) ?_
            refine va_iald hx hb hK hP 1 1 rfl rfl (vp_in_nI (by omega) (by omega)) dX9_mend_167 ?_
            rw [nI_clamp (n := k) (by omega)]
            refine W.eq (g2 := F0 m 168 ls [.int (nI (Ti k)), .ref m0]) rfl ?_
            refine wVv (wr := [(rM, .inl (E.2 1, 60, .inl (nA Ti)))]) hE ⟨hx, hb, hml, hown, hts⟩ (c_X9_addTurn l E H.size m0 sh rO rU rT rg rS rB rP rG ab0 be0 (nI mk) rM rN rL rZ rE rI hc rA rX lnn rV rW sl rC rF rQ rK rR rD (adAll Ti k) Tn (Ti k) (hR) (i2)) (cwV 1 hts gX9_mend_X9_addTurn rfl rfl rfl (by decide +kernel) ⟨Nat.le_of_ble_eq_true rfl, Nat.le_of_ble_eq_true rfl⟩) hP hD hS hA [0, 2] [1] rfl rfl (by decide) (by decide) (by decide) 0 9 rfl rfl rfl hl.1 rfl (Nat.le_of_ble_eq_true rfl) dX9_mend_168 ⟨(Nat.zero_le _), (Nat.zero_le _)⟩ (fun u H locs hw hP hD hS => ?_)
            obtain ⟨T2_168, rfl⟩ : ∃ z, z = u := ⟨_, rfl⟩
            have hP : va_P E.1 vwCl [(rM, .inl (E.2 1, 60, .inl (nA Ti))), (m0, .inr (9, [.int sh, .ref rO, .ref rU, .ref rT, .int rg, .ref rS, .ref rB, .ref rP, .ref rG, .long ab0, .long be0, .int (nI mk), .ref rM, .int (nI (kpL (adAll Ti k) (Ti k)).length), .ref rN, .ref rL, .ref rZ, .ref rE, .ref rI, .int hc, .ref rA, .ref rX, .int lnn, .ref rV, .ref rW, .int sl, .ref rC, .ref rF, .ref rQ, .ref rK, .ref rR, .ref rD])), (rN, .inl (E.2 1, 120, .inl (nA T2_168)))] H := hP
            have hD : va_D A [(rM, .inl (E.2 1, 60, .inl (nA Ti))), (m0, .inr (9, [.int sh, .ref rO, .ref rU, .ref rT, .int rg, .ref rS, .ref rB, .ref rP, .ref rG, .long ab0, .long be0, .int (nI mk), .ref rM, .int (nI (kpL (adAll Ti k) (Ti k)).length), .ref rN, .ref rL, .ref rZ, .ref rE, .ref rI, .int hc, .ref rA, .ref rX, .int lnn, .ref rV, .ref rW, .int sl, .ref rC, .ref rF, .ref rQ, .ref rK, .ref rR, .ref rD])), (rN, .inl (E.2 1, 120, .inl (nA T2_168)))] := hD
            have hm_168 := hw
            refine lv_iinc (v := nI (k + 1)) (lv' := [(1, .int (nI (k + 1))), (5, .long (lN way)), (3, .long (lN w)), (2, .int (nI fr)), (0, .ref m0)]) hx hb dX9_mend_171 hl (k := 4) rfl (nI_add k 1) (by decide) rfl (fun ls hl => ?_)
            refine lv_goto (tgt := 7) hx hb dX9_mend_174 (by decide) ?_
            exact ih7 (k + 1) T2_168 _ _ _ (by omega) (by omega) (eAd ▸ hm_168) (by rw [eAd]; exact hP.sub [1, 0, 2] rfl) (by rw [eAd]; exact hD.sub [1, 0, 2] (by decide) rfl) hS (lv_sub hl [4, 0] rfl)
          · have c_79 := lc_le_n c_79
            have c_79 : ¬ (2 * way) ≤ (3 * w) := fun h9 => c_79 ((pk_lLE (a := 2 * way) (b := 3 * w) (by omega) (by omega)).mpr h9)
            refine lv_ldc2 (v := 2) hx hb hown (hts (.constantLong RX9 140 (2)) (by decide +kernel)) dX9_mend_82 ?_
            refine lv_lload hx hb dX9_mend_85 (lv_at hl 0 rfl) ?_
            refine lv_lmul hx hb dX9_mend_87 ?_
            rw [show ((2 : Int64) * (lN way) : Int64) = lN (2 * way) from lN_mul 2 way]
            refine lv_lload_n hx hb dX9_mend_88 rfl (lv_at hl 1 rfl) ?_
            refine lv_ladd hx hb dX9_mend_89 ?_
            rw [show ((lN (2 * way)) + (lN w) : Int64) = lN ((2 * way) + w) from lN_add (2 * way) w]
            refine lv_ldc2 (v := 2) hx hb hown (hts (.constantLong RX9 140 (2)) (by decide +kernel)) dX9_mend_90 ?_
            refine lv_lload_n hx hb dX9_mend_93 rfl (lv_at hl 1 rfl) ?_
            refine lv_lmul hx hb dX9_mend_94 ?_
            rw [show ((2 : Int64) * (lN w) : Int64) = lN (2 * w) from lN_mul 2 w]
            refine lv_ldiv hx hb dX9_mend_95 (lN_ne (by omega) (by omega)) ?_
            rw [show ((lN ((2 * way) + w)) / (lN (2 * w)) : Int64) = lN (((2 * way) + w) / (2 * w)) from pk_lDiv (a := (2 * way) + w) (b := 2 * w) (by omega) (by omega) (by omega)]
            have hmq2 : 2 ≤ (2 * way + w) / (2 * w) := (Nat.le_div_iff_mul_le (by omega)).mpr (by omega)
            have hmq3 : (2 * way + w) / (2 * w) ≤ 3000000 := Nat.le_trans (Nat.div_le_self _ _) (by omega)
            obtain ⟨mq, hmq⟩ : ∃ z, z = ((2 * way) + w) / (2 * w) := ⟨_, rfl⟩
            rw [← hmq]
            rw [← hmq] at hmq2 hmq3
            refine lv_lstore (lv' := [(7, .long (lN mq)), (5, .long (lN way)), (3, .long (lN w)), (2, .int (nI fr)), (0, .ref m0), (1, .int (nI k))]) hx hb dX9_mend_96 hl (by decide) rfl (fun ls hl => ?_)
            refine lv_lload hx hb dX9_mend_98 (lv_at hl 0 rfl) ?_
            refine lv_ldc2 (v := 2) hx hb hown (hts (.constantLong RX9 140 (2)) (by decide +kernel)) dX9_mend_100 ?_
            refine W.lcmp hx hb dX9_mend_103 ?_
            refine lv_if_ge (tgt := 113) hx hb dX9_mend_104 (by decide) (fun c_104 => ?_) (fun c_104 => by exfalso; have c_104 := lc_ge_n c_104; have c_104 : ¬ 2 ≤ mq := fun h9 => c_104 ((pk_lLE (a := 2) (b := mq) (by omega) (by omega)).mpr h9); omega)
            have c_104 := lc_ge c_104
            have c_104 : 2 ≤ mq := (pk_lLE (a := 2) (b := mq) (by omega) (by omega)).mp c_104
            refine lv_lload hx hb dX9_mend_113 (lv_at hl 0 rfl) ?_
            refine lv_lstore (lv' := [(7, .long (lN mq)), (5, .long (lN way)), (3, .long (lN w)), (2, .int (nI fr)), (0, .ref m0), (1, .int (nI k))]) hx hb dX9_mend_115 hl (by decide) rfl (fun ls hl => ?_)
            refine lv_lconst (v := 1) hx hb dX9_mend_117 (by decide) ?_
            refine lv_lstore (lv' := [(9, .long 1), (7, .long (lN mq)), (5, .long (lN way)), (3, .long (lN w)), (2, .int (nI fr)), (0, .ref m0), (1, .int (nI k))]) hx hb dX9_mend_118 hl (by decide) rfl (fun ls hl => ?_)
            refine (fun (lp120 : ∀ (n9 : Nat) (i : Nat) (LL : List Nat) (Tn : Nat → Nat) (H : Heap) (locs : List Loc) (ls : Array Slot), (mq - i) < n9 → (1 ≤ i) → (i ≤ mq) → (RLs Tn LL) → (LL.length ≤ 120) → (flL fr way mq (mq + 1 - i) i LL = flL fr way mq mq 1 (adAll Ti k)) → va_P E.1 vwCl [(m0, .inr (9, [.int sh, .ref rO, .ref rU, .ref rT, .int rg, .ref rS, .ref rB, .ref rP, .ref rG, .long ab0, .long be0, .int (nI mk), .ref rM, .int (nI LL.length), .ref rN, .ref rL, .ref rZ, .ref rE, .ref rI, .int hc, .ref rA, .ref rX, .int lnn, .ref rV, .ref rW, .int sl, .ref rC, .ref rF, .ref rQ, .ref rK, .ref rR, .ref rD])), (rM, .inl (E.2 1, 60, .inl (nA Ti))), (rN, .inl (E.2 1, 120, .inl (nA Tn)))] H → va_D A [(m0, .inr (9, [.int sh, .ref rO, .ref rU, .ref rT, .int rg, .ref rS, .ref rB, .ref rP, .ref rG, .long ab0, .long be0, .int (nI mk), .ref rM, .int (nI LL.length), .ref rN, .ref rL, .ref rZ, .ref rE, .ref rI, .int hc, .ref rA, .ref rX, .int lnn, .ref rV, .ref rW, .int sl, .ref rC, .ref rF, .ref rQ, .ref rK, .ref rR, .ref rD])), (rM, .inl (E.2 1, 60, .inl (nA Ti))), (rN, .inl (E.2 1, 120, .inl (nA Tn)))] → va_S A s.heap H locs → lv_has ls 11 [(0, .ref m0), (1, .int (nI k)), (2, .int (nI fr)), (3, .long (lN w)), (5, .long (lN way)), (7, .long (lN mq)), (9, .long (lN i))] → W p l e _ s m _ below meth c H locs _ _ _ (F0 m 120 ls [])) => lp120 (mq + 1) 1 (adAll Ti k) Tn _ _ _ (by omega) (by omega) (by omega) (hR) (i2) (rfl) (hP.sub [0, 1, 2] rfl) (hD.sub [0, 1, 2] (by decide) rfl) hS (lv_sub hl [5, 6, 4, 3, 2, 1, 0] rfl)) ?_
            intro n120
            induction n120 with
            | zero => intro i LL Tn H locs ls h0; exact absurd (by assumption) (Nat.not_lt_zero _)
            | succ n120 ih120 =>
              intro i LL Tn H locs ls hmu120 hi hi2 hR2 hL2 hm hP hD hS hl
              refine lv_lload hx hb dX9_mend_120 (lv_at hl 6 rfl) ?_
              refine lv_lload hx hb dX9_mend_122 (lv_at hl 5 rfl) ?_
              refine W.lcmp hx hb dX9_mend_124 ?_
              refine lv_if_ge (tgt := 161) hx hb dX9_mend_125 (by decide) (fun c_125 => ?_) (fun c_125 => ?_)
              · have c_125 := lc_ge c_125
                have c_125 : mq ≤ i := (pk_lLE (a := mq) (b := i) (by omega) (by omega)).mp c_125
                have ew : wyL (adAll Ti k) = w := by rw [wyL, ← e1, ← e2, hw, hfr]
                have ef : frL (adAll Ti k) = fr := by rw [← e1, hfr]
                have eq : mqL (adAll Ti k) (Ti k) = mq := by rw [mqL, ew, ef, hmq, hway]
                have eMd : mdL (adAll Ti k) (Ti k) = LL := by rw [mdL, if_neg (by omega), if_neg (by rw [ew, ef]; omega), eq, ef, ← hway, ← hm, show mq + 1 - i = (mq - i) + 1 by omega, flL, if_neg (by omega)]
                have eAd : adAll Ti (k + 1) = kpL LL (Ti k) := by show kpL (mdL (adAll Ti k) (Ti k)) (Ti k) = _; rw [eMd]
                refine lv_aload_n hx hb dX9_mend_161 rfl (lv_at hl 0 rfl) ?_
                refine lv_aload_n hx hb dX9_mend_162 rfl (lv_at hl 0 rfl) ?_
                refine va_get (D := E.1) (ci := 9) (v := .ref rM) (C := RX9) (T := TX9) (N := 32) hx hb hts hinX9 hown hK hP 0 rfl rfl 12 (by decide) (hts (.fieldLink RX9 36 "WornRingsModel" "times" "[I") (by decide +kernel)) (fun _ h9 => h9) rfl dX9_mend_163 ?_
                refine lv_iload_n hx hb dX9_mend_166 rfl (lv_at hl 1 rfl) ?_
                refine va_iald hx hb hK hP 1 1 rfl rfl (vp_in_nI (by omega) (by omega)) dX9_mend_167 ?_
                rw [nI_clamp (n := k) (by omega)]
                refine W.eq (g2 := F0 m 168 ls [.int (nI (Ti k)), .ref m0]) rfl ?_
                refine wVv (wr := [(rM, .inl (E.2 1, 60, .inl (nA Ti)))]) hE ⟨hx, hb, hml, hown, hts⟩ (c_X9_addTurn l E H.size m0 sh rO rU rT rg rS rB rP rG ab0 be0 (nI mk) rM rN rL rZ rE rI hc rA rX lnn rV rW sl rC rF rQ rK rR rD LL Tn (Ti k) (hR2) (hL2)) (cwV 1 hts gX9_mend_X9_addTurn rfl rfl rfl (by decide +kernel) ⟨Nat.le_of_ble_eq_true rfl, Nat.le_of_ble_eq_true rfl⟩) hP hD hS hA [0, 2] [1] rfl rfl (by decide) (by decide) (by decide) 0 9 rfl rfl rfl hl.1 rfl (Nat.le_of_ble_eq_true rfl) dX9_mend_168 ⟨(Nat.zero_le _), (Nat.zero_le _)⟩ (fun u H locs hw hP hD hS => ?_)
                obtain ⟨T2_168, rfl⟩ : ∃ z, z = u := ⟨_, rfl⟩
                have hP : va_P E.1 vwCl [(rM, .inl (E.2 1, 60, .inl (nA Ti))), (m0, .inr (9, [.int sh, .ref rO, .ref rU, .ref rT, .int rg, .ref rS, .ref rB, .ref rP, .ref rG, .long ab0, .long be0, .int (nI mk), .ref rM, .int (nI (kpL LL (Ti k)).length), .ref rN, .ref rL, .ref rZ, .ref rE, .ref rI, .int hc, .ref rA, .ref rX, .int lnn, .ref rV, .ref rW, .int sl, .ref rC, .ref rF, .ref rQ, .ref rK, .ref rR, .ref rD])), (rN, .inl (E.2 1, 120, .inl (nA T2_168)))] H := hP
                have hD : va_D A [(rM, .inl (E.2 1, 60, .inl (nA Ti))), (m0, .inr (9, [.int sh, .ref rO, .ref rU, .ref rT, .int rg, .ref rS, .ref rB, .ref rP, .ref rG, .long ab0, .long be0, .int (nI mk), .ref rM, .int (nI (kpL LL (Ti k)).length), .ref rN, .ref rL, .ref rZ, .ref rE, .ref rI, .int hc, .ref rA, .ref rX, .int lnn, .ref rV, .ref rW, .int sl, .ref rC, .ref rF, .ref rQ, .ref rK, .ref rR, .ref rD])), (rN, .inl (E.2 1, 120, .inl (nA T2_168)))] := hD
                have hm_168 := hw
                refine lv_iinc (v := nI (k + 1)) (lv' := [(1, .int (nI (k + 1))), (0, .ref m0), (2, .int (nI fr)), (3, .long (lN w)), (5, .long (lN way)), (7, .long (lN mq)), (9, .long (lN i))]) hx hb dX9_mend_171 hl (k := 1) rfl (nI_add k 1) (by decide) rfl (fun ls hl => ?_)
                refine lv_goto (tgt := 7) hx hb dX9_mend_174 (by decide) ?_
                exact ih7 (k + 1) T2_168 _ _ _ (by omega) (by omega) (eAd ▸ hm_168) (by rw [eAd]; exact hP.sub [1, 0, 2] rfl) (by rw [eAd]; exact hD.sub [1, 0, 2] (by decide) rfl) hS (lv_sub hl [1, 0] rfl)
              · have c_125 := lc_ge_n c_125
                have c_125 : ¬ mq ≤ i := fun h9 => c_125 ((pk_lLE (a := mq) (b := i) (by omega) (by omega)).mpr h9)
                refine lv_aload_n hx hb dX9_mend_128 rfl (lv_at hl 0 rfl) ?_
                refine va_get (D := E.1) (ci := 9) (v := .int (nI LL.length)) (C := RX9) (T := TX9) (N := 32) hx hb hts hinX9 hown hK hP 0 rfl rfl 13 (by decide) (hts (.fieldLink RX9 151 "WornRingsModel" "mended" "I") (by decide +kernel)) (fun _ h9 => h9) rfl dX9_mend_129 ?_
                refine lv_bipush (v := 120) hx hb dX9_mend_132 (by decide) ?_
                refine lv_icmp_ge (tgt := 161) hx hb dX9_mend_134 (by decide) (fun c_134 => ?_) (fun c_134 => ?_)
                · have c_134 : 120 ≤ LL.length := (nI_leI (a := 120) (b := LL.length) (by omega) (by omega)).mp c_134
                  have ew : wyL (adAll Ti k) = w := by rw [wyL, ← e1, ← e2, hw, hfr]
                  have ef : frL (adAll Ti k) = fr := by rw [← e1, hfr]
                  have eq : mqL (adAll Ti k) (Ti k) = mq := by rw [mqL, ew, ef, hmq, hway]
                  have eMd : mdL (adAll Ti k) (Ti k) = LL := by rw [mdL, if_neg (by omega), if_neg (by rw [ew, ef]; omega), eq, ef, ← hway, ← hm, show mq + 1 - i = (mq - i) + 1 by omega, flL, if_neg (by omega)]
                  have eAd : adAll Ti (k + 1) = kpL LL (Ti k) := by show kpL (mdL (adAll Ti k) (Ti k)) (Ti k) = _; rw [eMd]
                  refine lv_aload_n hx hb dX9_mend_161 rfl (lv_at hl 0 rfl) ?_
                  refine lv_aload_n hx hb dX9_mend_162 rfl (lv_at hl 0 rfl) ?_
                  refine va_get (D := E.1) (ci := 9) (v := .ref rM) (C := RX9) (T := TX9) (N := 32) hx hb hts hinX9 hown hK hP 0 rfl rfl 12 (by decide) (hts (.fieldLink RX9 36 "WornRingsModel" "times" "[I") (by decide +kernel)) (fun _ h9 => h9) rfl dX9_mend_163 ?_
                  refine lv_iload_n hx hb dX9_mend_166 rfl (lv_at hl 1 rfl) ?_
                  refine va_iald hx hb hK hP 1 1 rfl rfl (vp_in_nI (by omega) (by omega)) dX9_mend_167 ?_
                  rw [nI_clamp (n := k) (by omega)]
                  refine W.eq (g2 := F0 m 168 ls [.int (nI (Ti k)), .ref m0]) rfl ?_
                  refine wVv (wr := [(rM, .inl (E.2 1, 60, .inl (nA Ti)))]) hE ⟨hx, hb, hml, hown, hts⟩ (c_X9_addTurn l E H.size m0 sh rO rU rT rg rS rB rP rG ab0 be0 (nI mk) rM rN rL rZ rE rI hc rA rX lnn rV rW sl rC rF rQ rK rR rD LL Tn (Ti k) (hR2) (hL2)) (cwV 1 hts gX9_mend_X9_addTurn rfl rfl rfl (by decide +kernel) ⟨Nat.le_of_ble_eq_true rfl, Nat.le_of_ble_eq_true rfl⟩) hP hD hS hA [0, 2] [1] rfl rfl (by decide) (by decide) (by decide) 0 9 rfl rfl rfl hl.1 rfl (Nat.le_of_ble_eq_true rfl) dX9_mend_168 ⟨(Nat.zero_le _), (Nat.zero_le _)⟩ (fun u H locs hw hP hD hS => ?_)
                  obtain ⟨T2_168, rfl⟩ : ∃ z, z = u := ⟨_, rfl⟩
                  have hP : va_P E.1 vwCl [(rM, .inl (E.2 1, 60, .inl (nA Ti))), (m0, .inr (9, [.int sh, .ref rO, .ref rU, .ref rT, .int rg, .ref rS, .ref rB, .ref rP, .ref rG, .long ab0, .long be0, .int (nI mk), .ref rM, .int (nI (kpL LL (Ti k)).length), .ref rN, .ref rL, .ref rZ, .ref rE, .ref rI, .int hc, .ref rA, .ref rX, .int lnn, .ref rV, .ref rW, .int sl, .ref rC, .ref rF, .ref rQ, .ref rK, .ref rR, .ref rD])), (rN, .inl (E.2 1, 120, .inl (nA T2_168)))] H := hP
                  have hD : va_D A [(rM, .inl (E.2 1, 60, .inl (nA Ti))), (m0, .inr (9, [.int sh, .ref rO, .ref rU, .ref rT, .int rg, .ref rS, .ref rB, .ref rP, .ref rG, .long ab0, .long be0, .int (nI mk), .ref rM, .int (nI (kpL LL (Ti k)).length), .ref rN, .ref rL, .ref rZ, .ref rE, .ref rI, .int hc, .ref rA, .ref rX, .int lnn, .ref rV, .ref rW, .int sl, .ref rC, .ref rF, .ref rQ, .ref rK, .ref rR, .ref rD])), (rN, .inl (E.2 1, 120, .inl (nA T2_168)))] := hD
                  have hm_168 := hw
                  refine lv_iinc (v := nI (k + 1)) (lv' := [(1, .int (nI (k + 1))), (0, .ref m0), (2, .int (nI fr)), (3, .long (lN w)), (5, .long (lN way)), (7, .long (lN mq)), (9, .long (lN i))]) hx hb dX9_mend_171 hl (k := 1) rfl (nI_add k 1) (by decide) rfl (fun ls hl => ?_)
                  refine lv_goto (tgt := 7) hx hb dX9_mend_174 (by decide) ?_
                  exact ih7 (k + 1) T2_168 _ _ _ (by omega) (by omega) (eAd ▸ hm_168) (by rw [eAd]; exact hP.sub [1, 0, 2] rfl) (by rw [eAd]; exact hD.sub [1, 0, 2] (by decide) rfl) hS (lv_sub hl [1, 0] rfl)
                · have c_134 : ¬ 120 ≤ LL.length := fun h9 => c_134 ((nI_leI (a := 120) (b := LL.length) (by omega) (by omega)).mpr h9)
                  refine lv_aload_n hx hb dX9_mend_137 rfl (lv_at hl 0 rfl) ?_
                  refine lv_iload_n hx hb dX9_mend_138 rfl (lv_at hl 2 rfl) ?_
                  refine lv_lload hx hb dX9_mend_139 (lv_at hl 4 rfl) ?_
                  refine lv_lload hx hb dX9_mend_141 (lv_at hl 6 rfl) ?_
                  refine lv_lmul hx hb dX9_mend_143 ?_
                  rw [show ((lN way) * (lN i) : Int64) = lN (way * i) from lN_mul way i]
                  refine lv_lload hx hb dX9_mend_144 (lv_at hl 5 rfl) ?_
                  refine lv_ldiv hx hb dX9_mend_146 (lN_ne (by omega) (by omega)) ?_
                  rw [show ((lN (way * i)) / (lN mq) : Int64) = lN ((way * i) / mq) from pk_lDiv (a := way * i) (b := mq) (by have h9 := Nat.mul_le_mul (show way ≤ 1000000 by omega) (show i ≤ 3000000 by omega); omega) (by omega) (by omega)]
                  refine lv_l2i (v := nI ((way * i) / mq)) hx hb dX9_mend_147 (lN_i _) ?_
                  refine lv_iadd hx hb dX9_mend_148 ?_
                  rw [show ((nI fr) + (nI ((way * i) / mq)) : Int32) = nI (fr + ((way * i) / mq)) from nI_add fr ((way * i) / mq)]
                  refine wVv (wr := [(rM, .inl (E.2 1, 60, .inl (nA Ti)))]) hE ⟨hx, hb, hml, hown, hts⟩ (c_X9_addTurn l E H.size m0 sh rO rU rT rg rS rB rP rG ab0 be0 (nI mk) rM rN rL rZ rE rI hc rA rX lnn rV rW sl rC rF rQ rK rR rD LL Tn (fr + ((way * i) / mq)) (hR2) (hL2)) (cwV 1 hts gX9_mend_X9_addTurn rfl rfl rfl (by decide +kernel) ⟨Nat.le_of_ble_eq_true rfl, Nat.le_of_ble_eq_true rfl⟩) hP hD hS hA [0, 2] [1] rfl rfl (by decide) (by decide) (by decide) 0 9 rfl rfl rfl hl.1 rfl (Nat.le_of_ble_eq_true rfl) dX9_mend_149 ⟨(Nat.zero_le _), (Nat.zero_le _)⟩ (fun u H locs hw hP hD hS => ?_)
                  obtain ⟨T2_149, rfl⟩ : ∃ z, z = u := ⟨_, rfl⟩
                  have hP : va_P E.1 vwCl [(rM, .inl (E.2 1, 60, .inl (nA Ti))), (m0, .inr (9, [.int sh, .ref rO, .ref rU, .ref rT, .int rg, .ref rS, .ref rB, .ref rP, .ref rG, .long ab0, .long be0, .int (nI mk), .ref rM, .int (nI (kpL LL (fr + ((way * i) / mq))).length), .ref rN, .ref rL, .ref rZ, .ref rE, .ref rI, .int hc, .ref rA, .ref rX, .int lnn, .ref rV, .ref rW, .int sl, .ref rC, .ref rF, .ref rQ, .ref rK, .ref rR, .ref rD])), (rN, .inl (E.2 1, 120, .inl (nA T2_149)))] H := hP
                  have hD : va_D A [(rM, .inl (E.2 1, 60, .inl (nA Ti))), (m0, .inr (9, [.int sh, .ref rO, .ref rU, .ref rT, .int rg, .ref rS, .ref rB, .ref rP, .ref rG, .long ab0, .long be0, .int (nI mk), .ref rM, .int (nI (kpL LL (fr + ((way * i) / mq))).length), .ref rN, .ref rL, .ref rZ, .ref rE, .ref rI, .int hc, .ref rA, .ref rX, .int lnn, .ref rV, .ref rW, .int sl, .ref rC, .ref rF, .ref rQ, .ref rK, .ref rR, .ref rD])), (rN, .inl (E.2 1, 120, .inl (nA T2_149)))] := hD
                  have hm_149 := hw
                  refine lv_lload hx hb dX9_mend_152 (lv_at hl 6 rfl) ?_
                  refine lv_lconst (v := 1) hx hb dX9_mend_154 (by decide) ?_
                  refine lv_ladd hx hb dX9_mend_155 ?_
                  rw [show ((lN i) + (1 : Int64) : Int64) = lN (i + 1) from lN_add i 1]
                  refine lv_lstore (lv' := [(9, .long (lN (i + 1))), (0, .ref m0), (1, .int (nI k)), (2, .int (nI fr)), (3, .long (lN w)), (5, .long (lN way)), (7, .long (lN mq))]) hx hb dX9_mend_156 hl (by decide) rfl (fun ls hl => ?_)
                  refine lv_goto (tgt := 120) hx hb dX9_mend_158 (by decide) ?_
                  exact ih120 (i + 1) (kpL LL (fr + way * i / mq)) T2_149 _ _ _ (by omega) (by omega) (by omega) (hm_149) (kpL_len _ _ hL2) (by rw [← hm, show mq + 1 - i = (mq + 1 - (i + 1)) + 1 by omega, flL, if_pos ⟨by omega, by omega⟩]) (hP.sub [1, 0, 2] rfl) (hD.sub [1, 0, 2] (by decide) rfl) hS (lv_sub hl [1, 2, 3, 4, 5, 6, 0] rfl)
