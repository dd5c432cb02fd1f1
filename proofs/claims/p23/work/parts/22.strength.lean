/-! strength -/
theorem fm_all : (List.range 512).all (fun a => decide (fFM (nI a) 32 = nI (a % 32)) && decide (fFM (nI a - 8) 32 = nI ((a + 24) % 32))) = true := by decide +kernel
theorem fm_a {a : Nat} (h : a < 512) : fFM (nI a) 32 = nI (a % 32) ∧ fFM (nI a - 8) 32 = nI ((a + 24) % 32) := by
  have h1 := List.all_eq_true.mp fm_all a (List.mem_range.mpr h)
  simp only [Bool.and_eq_true, decide_eq_true_eq] at h1; exact h1
def sA (g : Nat → Int32) (o d : Nat) : Nat → Int64
  | 0 => 0
  | j + 1 => sA g o d j + (g j).toInt64 * (wvN ((o * j + d) % 32)).toInt64
def fSt (g : Nat → Int32) (o : Nat) : Int64 := (sA g o 0 32 * sA g o 0 32 + sA g o 24 32 * sA g o 24 32) / 1000000

set_option maxHeartbeats 1000000 in
set_option maxRecDepth 100000 in
theorem c_X8_cosine (l : Launch) (E : EnvT) (tq : Nat) (x : Int32) (rr : Nat) (hr9 : fFM x 32 = nI rr) (hr3 : rr < 32) : Met l yX8_cosine wsX8_cosine ({ frames := 1, cells := 0, slots := 0, locals := 22 }) (va_Pc [.int x] (PRq E [] tq)) (vp_Si (fun r => r = wvN rr)) 0 0 (fun _ => False) := by
  refine Met.ofW (cc := cX8_cosine) (maxL := 3) (ret := (some .int)) (by decide +kernel) rfl ?_
  intro p e s m args below meth c s₁ B hml hv
  obtain ⟨rfl, ⟨hP, hE⟩, hQ⟩ := hv
  have hx := B.exec
  have hb := B.bytes
  have hr := B.returns
  have hts := atoms_spec (ws := wsX8_cosine) B.pre
  have hown : s.vm.findClass RX8 = some m.cls := findClass_of_methodNamed B.named
  have hlocks := B.notSynchronized
  have hK := hE.1
  have hNN := hE.2.1
  have hl := lv_entry ([.int x]) (n := 3) (Nat.le_of_ble_eq_true rfl)
  rw [lg_entry_eq]
  generalize (lg_sl ([.int x]) ++ List.replicate (3 - (lg_sl ([.int x])).length) Slot.unset).toArray = ls at hl ⊢
  have hl : lv_has ls 3 [(0, .int x)] := hl
  refine lv_iload_n hx hb dX8_cosine_0 rfl (lv_at hl 0 rfl) ?_
  refine lv_bipush (v := 32) hx hb dX8_cosine_1 (by decide) ?_
  refine rSi hE ⟨hx, hb, hml, hown, hts⟩ (c_J9_floorMod_7cf53 l E x 32 (by decide)) (va_cwS 2 hts gX8_cosine_J9_floorMod_7cf53 rfl rfl rfl (by decide +kernel) ⟨Nat.le_of_ble_eq_true rfl, Nat.le_of_ble_eq_true rfl⟩) (hP.sub [] rfl) rfl hl.1 rfl (Nat.le_of_ble_eq_true rfl) dX8_cosine_3 ⟨(Nat.zero_le _), (Nat.zero_le _)⟩ ?_
  rw [show (fFM x 32 : Int32) = nI rr from hr9]
  refine lv_istore_n (lv' := [(1, .int (nI rr)), (0, .int x)]) hx hb dX8_cosine_6 rfl hl (by decide) rfl (fun ls hl => ?_)
  refine lv_iload_n hx hb dX8_cosine_7 rfl (lv_at hl 0 rfl) ?_
  refine lv_bipush (v := 16) hx hb dX8_cosine_8 (by decide) ?_
  refine lv_icmp_le (tgt := 20) hx hb dX8_cosine_10 (by decide) (fun c_10 => ?_) (fun c_10 => ?_)
  · have c_10 : rr ≤ 16 := (nI_leI (a := rr) (b := 16) (by omega) (by omega)).mp c_10
    refine lv_iload_n hx hb dX8_cosine_20 rfl (lv_at hl 0 rfl) ?_
    have hkw : wk rr = rr := by unfold wk; first | exact if_pos (by omega) | exact if_neg (by omega)
    refine lv_istore_n (lv' := [(2, .int (nI rr)), (1, .int (nI rr)), (0, .int x)]) hx hb dX8_cosine_21 rfl hl (by decide) rfl (fun ls hl => ?_)
    refine lv_iload_n hx hb dX8_cosine_22 rfl (lv_at hl 0 rfl) ?_
    refine lv_bipush (v := 8) hx hb dX8_cosine_23 (by decide) ?_
    refine lv_icmp_le (tgt := 40) hx hb dX8_cosine_25 (by decide) (fun c_25 => ?_) (fun c_25 => ?_)
    · have c_25 : rr ≤ 8 := (nI_leI (a := rr) (b := 8) (by omega) (by omega)).mp c_25
      refine va_gets hx hb hQ.1 va_S.rf hown (hts (.fieldLink RX8 237 "WornRings" "QUARTER" "[I") (by decide +kernel)) (fun _ h9 => h9) dX8_cosine_40 ?_
      refine lv_iload_n hx hb dX8_cosine_43 rfl (lv_at hl 0 rfl) ?_
      refine va_ti (v := .int (wvT rr)) hx hb hQ.2 va_S.rf (vp_in_nI (by omega) (by omega)) (by rw [nI_clamp (n := rr) (by omega)]) dX8_cosine_44 ?_
      exact W.iret (v := wvT rr) hx hb hr (fun t9 ht9 hW9 => ⟨wvT rr, rfl, by rw [wvN, hkw]; first | rw [if_pos (by omega)] | rw [if_neg (by omega)], ht9⟩) (fun _ h => absurd h List.not_mem_nil) dX8_cosine_45
    · have c_25 : ¬ rr ≤ 8 := fun h9 => c_25 ((nI_leI (a := rr) (b := 8) (by omega) (by omega)).mpr h9)
      refine va_gets hx hb hQ.1 va_S.rf hown (hts (.fieldLink RX8 237 "WornRings" "QUARTER" "[I") (by decide +kernel)) (fun _ h9 => h9) dX8_cosine_28 ?_
      refine lv_bipush (v := 16) hx hb dX8_cosine_31 (by decide) ?_
      refine lv_iload_n hx hb dX8_cosine_33 rfl (lv_at hl 0 rfl) ?_
      refine lv_isub hx hb dX8_cosine_34 ?_
      rw [show ((16 : Int32) - (nI rr) : Int32) = nI (16 - rr) from pk_sub (a := 16) (b := rr) (by omega)]
      refine va_ti (v := .int (wvT (16 - rr))) hx hb hQ.2 va_S.rf (vp_in_nI (by omega) (by omega)) (by rw [nI_clamp (n := 16 - rr) (by omega)]) dX8_cosine_35 ?_
      refine lv_ineg hx hb dX8_cosine_36 ?_
      refine lv_goto (tgt := 45) hx hb dX8_cosine_37 (by decide) ?_
      exact W.iret (v := -(wvT (16 - rr))) hx hb hr (fun t9 ht9 hW9 => ⟨-(wvT (16 - rr)), rfl, by rw [wvN, hkw]; first | rw [if_pos (by omega)] | rw [if_neg (by omega)], ht9⟩) (fun _ h => absurd h List.not_mem_nil) dX8_cosine_45
  · have c_10 : ¬ rr ≤ 16 := fun h9 => c_10 ((nI_leI (a := rr) (b := 16) (by omega) (by omega)).mpr h9)
    refine lv_bipush (v := 32) hx hb dX8_cosine_13 (by decide) ?_
    refine lv_iload_n hx hb dX8_cosine_15 rfl (lv_at hl 0 rfl) ?_
    refine lv_isub hx hb dX8_cosine_16 ?_
    rw [show ((32 : Int32) - (nI rr) : Int32) = nI (32 - rr) from pk_sub (a := 32) (b := rr) (by omega)]
    refine lv_goto (tgt := 21) hx hb dX8_cosine_17 (by decide) ?_
    have hkw : wk rr = 32 - rr := by unfold wk; first | exact if_pos (by omega) | exact if_neg (by omega)
    refine lv_istore_n (lv' := [(2, .int (nI (32 - rr))), (1, .int (nI rr)), (0, .int x)]) hx hb dX8_cosine_21 rfl hl (by decide) rfl (fun ls hl => ?_)
    refine lv_iload_n hx hb dX8_cosine_22 rfl (lv_at hl 0 rfl) ?_
    refine lv_bipush (v := 8) hx hb dX8_cosine_23 (by decide) ?_
    refine lv_icmp_le (tgt := 40) hx hb dX8_cosine_25 (by decide) (fun c_25 => ?_) (fun c_25 => ?_)
    · have c_25 : (32 - rr) ≤ 8 := (nI_leI (a := 32 - rr) (b := 8) (by omega) (by omega)).mp c_25
      refine va_gets hx hb hQ.1 va_S.rf hown (hts (.fieldLink RX8 237 "WornRings" "QUARTER" "[I") (by decide +kernel)) (fun _ h9 => h9) dX8_cosine_40 ?_
      refine lv_iload_n hx hb dX8_cosine_43 rfl (lv_at hl 0 rfl) ?_
      refine va_ti (v := .int (wvT (32 - rr))) hx hb hQ.2 va_S.rf (vp_in_nI (by omega) (by omega)) (by rw [nI_clamp (n := 32 - rr) (by omega)]) dX8_cosine_44 ?_
      exact W.iret (v := wvT (32 - rr)) hx hb hr (fun t9 ht9 hW9 => ⟨wvT (32 - rr), rfl, by rw [wvN, hkw]; first | rw [if_pos (by omega)] | rw [if_neg (by omega)], ht9⟩) (fun _ h => absurd h List.not_mem_nil) dX8_cosine_45
    · have c_25 : ¬ (32 - rr) ≤ 8 := fun h9 => c_25 ((nI_leI (a := 32 - rr) (b := 8) (by omega) (by omega)).mpr h9)
      refine va_gets hx hb hQ.1 va_S.rf hown (hts (.fieldLink RX8 237 "WornRings" "QUARTER" "[I") (by decide +kernel)) (fun _ h9 => h9) dX8_cosine_28 ?_
      refine lv_bipush (v := 16) hx hb dX8_cosine_31 (by decide) ?_
      refine lv_iload_n hx hb dX8_cosine_33 rfl (lv_at hl 0 rfl) ?_
      refine lv_isub hx hb dX8_cosine_34 ?_
      rw [show ((16 : Int32) - (nI (32 - rr)) : Int32) = nI (16 - (32 - rr)) from pk_sub (a := 16) (b := (32 - rr)) (by omega)]
      refine va_ti (v := .int (wvT (16 - (32 - rr)))) hx hb hQ.2 va_S.rf (vp_in_nI (by omega) (by omega)) (by rw [nI_clamp (n := 16 - (32 - rr)) (by omega)]) dX8_cosine_35 ?_
      refine lv_ineg hx hb dX8_cosine_36 ?_
      refine lv_goto (tgt := 45) hx hb dX8_cosine_37 (by decide) ?_
      exact W.iret (v := -(wvT (16 - (32 - rr)))) hx hb hr (fun t9 ht9 hW9 => ⟨-(wvT (16 - (32 - rr))), rfl, by rw [wvN, hkw]; first | rw [if_pos (by omega)] | rw [if_neg (by omega)], ht9⟩) (fun _ h => absurd h List.not_mem_nil) dX8_cosine_45
set_option maxHeartbeats 1000000 in
set_option maxRecDepth 100000 in
theorem c_X5_strengthAt (l : Launch) (E : EnvT) (tq : Nat) (h0 : Nat) (av : Nat) (told : Int32) (g : Nat → Int32) (o : Nat) (ho : o ≤ 16) : Met l yX5_strengthAt wsX5_strengthAt ({ frames := 2, cells := 0, slots := 0, locals := 44 }) (va_Pc [.ref h0, .int (nI o)] (PRq E [(h0, .inr (5, [.ref av, .int told])), (av, .inl (E.2 1, 32, .inl g))] tq)) (vp_Sl (fun r => r = fSt g o)) 0 0 (fun _ => False) := by
  refine Met.ofW (cc := cX5_strengthAt) (maxL := 7) (ret := (some .long)) (by decide +kernel) rfl ?_
  intro p e s m args below meth c s₁ B hml hv
  obtain ⟨rfl, ⟨hP, hE⟩, hQ⟩ := hv
  have hx := B.exec
  have hb := B.bytes
  have hr := B.returns
  have hts := atoms_spec (ws := wsX5_strengthAt) B.pre
  have hown : s.vm.findClass RX5 = some m.cls := findClass_of_methodNamed B.named
  have hlocks := B.notSynchronized
  have hK := hE.1
  have hNN := hE.2.1
  have hinX5 : ∀ w ∈ wsX50, w ∈ wsX5_strengthAt := fun w h => List.mem_cons_of_mem _ (List.mem_append_right _ h)
  have hl := lv_entry ([.ref h0, .int (nI o)]) (n := 7) (Nat.le_of_ble_eq_true rfl)
  rw [lg_entry_eq]
  generalize (lg_sl ([.ref h0, .int (nI o)]) ++ List.replicate (7 - (lg_sl ([.ref h0, .int (nI o)])).length) Slot.unset).toArray = ls at hl ⊢
  have hl : lv_has ls 7 [(0, .ref h0), (1, .int (nI o))] := hl
  refine lv_lconst (v := 0) hx hb dX5_strengthAt_0 (by decide) ?_
  refine lv_lstore_n (lv' := [(2, .long 0), (0, .ref h0), (1, .int (nI o))]) hx hb dX5_strengthAt_1 rfl hl (by decide) rfl (fun ls hl => ?_)
  refine lv_lconst (v := 0) hx hb dX5_strengthAt_2 (by decide) ?_
  refine lv_lstore (lv' := [(4, .long 0), (2, .long 0), (0, .ref h0), (1, .int (nI o))]) hx hb dX5_strengthAt_3 hl (by decide) rfl (fun ls hl => ?_)
  refine lv_iconst (v := 0) hx hb dX5_strengthAt_5 (by decide) ?_
  refine lv_istore (lv' := [(6, .int 0), (4, .long 0), (2, .long 0), (0, .ref h0), (1, .int (nI o))]) hx hb dX5_strengthAt_6 hl (by decide) rfl (fun ls hl => ?_)
  refine (fun (lp8 : ∀ (n9 : Nat) (j : Nat) (ls : Array Slot), (32 - j) < n9 → (j ≤ 32) → lv_has ls 7 [(0, .ref h0), (1, .int (nI o)), (2, .long (sA g o 0 j)), (4, .long (sA g o 24 j)), (6, .int (nI j))] → W p l e _ s m _ below meth c s.heap [] _ _ _ (F0 m 8 ls [])) => lp8 (33) 0 _ (by omega) (by omega) (lv_sub hl [3, 4, 2, 1, 0] rfl)) ?_
  intro n8
  induction n8 with
  | zero => intro j ls h0; exact absurd (by assumption) (Nat.not_lt_zero _)
  | succ n8 ih8 =>
    intro j ls hmu8 hj hl
    have hoj : j < 32 → o * j ≤ 16 * 31 := fun h9 => Nat.mul_le_mul ho (by omega)
    refine lv_iload hx hb dX5_strengthAt_8 (lv_at hl 4 rfl) ?_
    refine lv_bipush (v := 32) hx hb dX5_strengthAt_10 (by decide) ?_
    refine lv_icmp_ge (tgt := 66) hx hb dX5_strengthAt_12 (by decide) (fun c_12 => ?_) (fun c_12 => ?_)
    · have c_12 : 32 ≤ j := (nI_leI (a := 32) (b := j) (by omega) (by omega)).mp c_12
      refine lv_lload_n hx hb dX5_strengthAt_66 rfl (lv_at hl 2 rfl) ?_
      refine lv_lload_n hx hb dX5_strengthAt_67 rfl (lv_at hl 2 rfl) ?_
      refine lv_lmul hx hb dX5_strengthAt_68 ?_
      refine lv_lload hx hb dX5_strengthAt_69 (lv_at hl 3 rfl) ?_
      refine lv_lload hx hb dX5_strengthAt_71 (lv_at hl 3 rfl) ?_
      refine lv_lmul hx hb dX5_strengthAt_73 ?_
      refine lv_ladd hx hb dX5_strengthAt_74 ?_
      refine lv_ldc2 (v := 1000000) hx hb hown (hts (.constantLong RX5 39 (1000000)) (by decide +kernel)) dX5_strengthAt_75 ?_
      refine lv_ldiv hx hb dX5_strengthAt_78 (by decide) ?_
      exact W.lret (v := (((sA g o 0 j) * (sA g o 0 j)) + ((sA g o 24 j) * (sA g o 24 j))) / 1000000) hx hb hr (fun t9 ht9 hW9 => ⟨(((sA g o 0 j) * (sA g o 0 j)) + ((sA g o 24 j) * (sA g o 24 j))) / 1000000, rfl, by rw [show j = 32 by omega]; rfl, ht9⟩) (fun _ h => absurd h List.not_mem_nil) dX5_strengthAt_79
    · have c_12 : ¬ 32 ≤ j := fun h9 => c_12 ((nI_leI (a := 32) (b := j) (by omega) (by omega)).mpr h9)
      refine lv_lload_n hx hb dX5_strengthAt_15 rfl (lv_at hl 2 rfl) ?_
      refine lv_aload_n hx hb dX5_strengthAt_16 rfl (lv_at hl 0 rfl) ?_
      refine va_get (D := E.1) (ci := 5) (v := .ref av) (C := RX5) (T := TX5) (N := 2) hx hb hts hinX5 hown hK hP 0 rfl rfl 0 (by decide) (hts (.fieldLink RX5 9 "WornRings$Mean" "values" "[I") (by decide +kernel)) (fun _ h9 => h9) rfl dX5_strengthAt_17 ?_
      refine lv_iload hx hb dX5_strengthAt_20 (lv_at hl 4 rfl) ?_
      refine va_iald hx hb hK hP 1 1 rfl rfl (vp_in_nI (by omega) (by omega)) dX5_strengthAt_22 ?_
      rw [nI_clamp (n := j) (by omega)]
      refine lv_i2l (v := (g j).toInt64) hx hb dX5_strengthAt_23 (rfl) ?_
      refine lv_iload_n hx hb dX5_strengthAt_24 rfl (lv_at hl 1 rfl) ?_
      refine lv_iload hx hb dX5_strengthAt_25 (lv_at hl 4 rfl) ?_
      refine lv_imul hx hb dX5_strengthAt_27 ?_
      rw [show ((nI o) * (nI j) : Int32) = nI (o * j) from pk_mul o j]
      refine rSNiq hE hQ ⟨hx, hb, hml, hown, hts⟩ (c_X8_cosine l E tq (nI (o * j)) ((o * j + 0) % 32) ((fm_a (by have h9 := hoj (by omega); omega)).1) (Nat.mod_lt _ (by omega))) ⟨va_cnB 1 hts gX5_strengthAt_X8_cosine_n36 rfl rfl rfl (hNN (.methodLinkNest RX5 36 yX8_cosine "WornRings") (by decide +kernel)) (hts (.initialized RX8) (by decide +kernel)) (by decide +kernel) ⟨Nat.le_of_ble_eq_true rfl, Nat.le_of_ble_eq_true rfl⟩, hts (.static yX8_cosine) (by decide +kernel), trivial⟩ (hP.sub [] rfl) rfl hl.1 rfl (Nat.le_of_ble_eq_true rfl) dX5_strengthAt_28 ⟨(Nat.zero_le _), (Nat.zero_le _)⟩ ?_
      refine lv_i2l (v := (wvN ((o * j + 0) % 32)).toInt64) hx hb dX5_strengthAt_31 (rfl) ?_
      refine lv_lmul hx hb dX5_strengthAt_32 ?_
      refine lv_ladd hx hb dX5_strengthAt_33 ?_
      refine lv_lstore_n (lv' := [(2, .long ((sA g o 0 j) + (((g j).toInt64) * ((wvN ((o * j + 0) % 32)).toInt64)))), (0, .ref h0), (1, .int (nI o)), (4, .long (sA g o 24 j)), (6, .int (nI j))]) hx hb dX5_strengthAt_34 rfl hl (by decide) rfl (fun ls hl => ?_)
      refine lv_lload hx hb dX5_strengthAt_35 (lv_at hl 3 rfl) ?_
      refine lv_aload_n hx hb dX5_strengthAt_37 rfl (lv_at hl 1 rfl) ?_
      refine va_get (D := E.1) (ci := 5) (v := .ref av) (C := RX5) (T := TX5) (N := 2) hx hb hts hinX5 hown hK hP 0 rfl rfl 0 (by decide) (hts (.fieldLink RX5 9 "WornRings$Mean" "values" "[I") (by decide +kernel)) (fun _ h9 => h9) rfl dX5_strengthAt_38 ?_
      refine lv_iload hx hb dX5_strengthAt_41 (lv_at hl 4 rfl) ?_
      refine va_iald hx hb hK hP 1 1 rfl rfl (vp_in_nI (by omega) (by omega)) dX5_strengthAt_43 ?_
      rw [nI_clamp (n := j) (by omega)]
      refine lv_i2l (v := (g j).toInt64) hx hb dX5_strengthAt_44 (rfl) ?_
      refine lv_iload_n hx hb dX5_strengthAt_45 rfl (lv_at hl 2 rfl) ?_
      refine lv_iload hx hb dX5_strengthAt_46 (lv_at hl 4 rfl) ?_
      refine lv_imul hx hb dX5_strengthAt_48 ?_
      rw [show ((nI o) * (nI j) : Int32) = nI (o * j) from pk_mul o j]
      refine lv_bipush (v := 8) hx hb dX5_strengthAt_49 (by decide) ?_
      refine lv_isub hx hb dX5_strengthAt_51 ?_
      refine rSNiq hE hQ ⟨hx, hb, hml, hown, hts⟩ (c_X8_cosine l E tq ((nI (o * j)) - 8) ((o * j + 24) % 32) ((fm_a (by have h9 := hoj (by omega); omega)).2) (Nat.mod_lt _ (by omega))) ⟨va_cnB 1 hts gX5_strengthAt_X8_cosine_n36 rfl rfl rfl (hNN (.methodLinkNest RX5 36 yX8_cosine "WornRings") (by decide +kernel)) (hts (.initialized RX8) (by decide +kernel)) (by decide +kernel) ⟨Nat.le_of_ble_eq_true rfl, Nat.le_of_ble_eq_true rfl⟩, hts (.static yX8_cosine) (by decide +kernel), trivial⟩ (hP.sub [] rfl) rfl hl.1 rfl (Nat.le_of_ble_eq_true rfl) dX5_strengthAt_52 ⟨(Nat.zero_le _), (Nat.zero_le _)⟩ ?_
      refine lv_i2l (v := (wvN ((o * j + 24) % 32)).toInt64) hx hb dX5_strengthAt_55 (rfl) ?_
      refine lv_lmul hx hb dX5_strengthAt_56 ?_
      refine lv_ladd hx hb dX5_strengthAt_57 ?_
      refine lv_lstore (lv' := [(4, .long ((sA g o 24 j) + (((g j).toInt64) * ((wvN ((o * j + 24) % 32)).toInt64)))), (2, .long ((sA g o 0 j) + (((g j).toInt64) * ((wvN ((o * j + 0) % 32)).toInt64)))), (0, .ref h0), (1, .int (nI o)), (6, .int (nI j))]) hx hb dX5_strengthAt_58 hl (by decide) rfl (fun ls hl => ?_)
      refine lv_iinc (v := nI (j + 1)) (lv' := [(6, .int (nI (j + 1))), (4, .long ((sA g o 24 j) + (((g j).toInt64) * ((wvN ((o * j + 24) % 32)).toInt64)))), (2, .long ((sA g o 0 j) + (((g j).toInt64) * ((wvN ((o * j + 0) % 32)).toInt64)))), (0, .ref h0), (1, .int (nI o))]) hx hb dX5_strengthAt_60 hl (k := 4) rfl (nI_add j 1) (by decide) rfl (fun ls hl => ?_)
      refine lv_goto (tgt := 8) hx hb dX5_strengthAt_63 (by decide) ?_
      exact ih8 (j + 1) _ (by omega) (by omega) (lv_sub hl [3, 4, 2, 1, 0] rfl)
set_option maxHeartbeats 1000000 in
set_option maxRecDepth 100000 in
theorem c_X8_strength (l : Launch) (E : EnvT) (g0 : Nat) (gm : Nat) (gk : Nat) (gs : Nat) (ga : Nat) (gl : Nat) (gh : Nat) (gd : Nat) (wA : Int32) (wB : Int32) (wU : Int32) (tq : Nat) (av : Nat) (told : Int32) (gg : Nat → Int32) (ov : Int32)  : Met l yX8_strength wsX8_strength ({ frames := 3, cells := 0, slots := 0, locals := 70 }) (va_Pc [.ref g0, .int ov] (PRq E [(g0, .inr (8, [.ref gm, .ref gk, .ref gs, .ref ga, .ref gl, .ref gh, .ref gd, .int wA, .int wB, .int wU])), (ga, .inr (5, [.ref av, .int told])), (av, .inl (E.2 1, 32, .inl gg))] tq)) (vp_Sl (fun r => r = if 0 ≤ ov ∧ ov ≤ 16 then (if told = 0 then -2 else fSt gg ov.toNatClampNeg) else -1)) 0 0 (fun _ => False) := by
  refine Met.ofW (cc := cX8_strength) (maxL := 2) (ret := (some .long)) (by decide +kernel) rfl ?_
  intro p e s m args below meth c s₁ B hml hv
  obtain ⟨rfl, ⟨hP, hE⟩, hQ⟩ := hv
  have hx := B.exec
  have hb := B.bytes
  have hr := B.returns
  have hts := atoms_spec (ws := wsX8_strength) B.pre
  have hown : s.vm.findClass RX8 = some m.cls := findClass_of_methodNamed B.named
  have hlocks := B.notSynchronized
  have hK := hE.1
  have hNN := hE.2.1
  have hinX8 : ∀ w ∈ wsX80, w ∈ wsX8_strength := fun w h => List.mem_cons_of_mem _ (List.mem_append_left _ (List.mem_append_right _ h))
  have hinX5 : ∀ w ∈ wsX50, w ∈ wsX8_strength := fun w h => List.mem_cons_of_mem _ (List.mem_append_right _ h)
  have hl := lv_entry ([.ref g0, .int ov]) (n := 2) (Nat.le_of_ble_eq_true rfl)
  rw [lg_entry_eq]
  generalize (lg_sl ([.ref g0, .int ov]) ++ List.replicate (2 - (lg_sl ([.ref g0, .int ov])).length) Slot.unset).toArray = ls at hl ⊢
  have hl : lv_has ls 2 [(0, .ref g0), (1, .int ov)] := hl
  refine lv_iload_n hx hb dX8_strength_0 rfl (lv_at hl 1 rfl) ?_
  refine lv_iconst (v := 0) hx hb dX8_strength_1 (by decide) ?_
  refine lv_bipush (v := 16) hx hb dX8_strength_2 (by decide) ?_
  refine rSi hE ⟨hx, hb, hml, hown, hts⟩ (c_X8_within l E ov 0 16 ) (va_cwS 3 hts gX8_strength_X8_within rfl rfl rfl (by decide +kernel) ⟨Nat.le_of_ble_eq_true rfl, Nat.le_of_ble_eq_true rfl⟩) (hP.sub [] rfl) rfl hl.1 rfl (Nat.le_of_ble_eq_true rfl) dX8_strength_4 ⟨(Nat.zero_le _), (Nat.zero_le _)⟩ ?_
  refine lv_if_ne (tgt := 14) hx hb dX8_strength_7 (by decide) (fun c_7 => ?_) (fun c_7 => ?_)
  · have c_7 := fWi_1 c_7
    obtain ⟨o, ho9, rfl⟩ : ∃ o : Nat, o ≤ 16 ∧ ov = nI o := nI_of2 (by decide) (Int32.not_lt.mpr c_7.1) c_7.2
    refine lv_aload_n hx hb dX8_strength_14 rfl (lv_at hl 0 rfl) ?_
    refine va_get (D := E.1) (ci := 8) (v := .ref ga) (C := RX8) (T := TX8) (N := 10) hx hb hts hinX8 hown hK hP 0 rfl rfl 3 (by decide) (hts (.fieldLink RX8 32 "WornRings" "average" "LWornRings$Mean;") (by decide +kernel)) (fun _ h9 => h9) rfl dX8_strength_15 ?_
    refine va_getN (D := E.1) (host := "WornRings") (ref := "WornRings$Mean") (ci := 5) (v := .int told) (C := RX5) (T := TX5) (N := 2) hx hb hts hinX5 hown hK hP 1 rfl rfl 1 (by decide) (va_Nw.use rfl (hNN (.fieldLinkNest RX8 169 "WornRings$Mean" "told" "Z" "WornRings") (by decide +kernel))) (fun _ h9 => h9) rfl dX8_strength_18 ?_
    refine lv_if_eq (tgt := 35) hx hb dX8_strength_21 (by decide) (fun c_21 => ?_) (fun c_21 => ?_)
    · refine lv_ldc2 (v := (-2)) hx hb hown (hts (.constantLong RX8 179 (-2)) (by decide +kernel)) dX8_strength_35 ?_
      exact W.lret (v := (-2)) hx hb hr (fun t9 ht9 hW9 => ⟨(-2), rfl, by first | (rw [if_pos c_7, if_pos c_21]; done) | (rw [if_pos c_7, if_neg c_21, nI_clamp (by omega)]; done), ht9⟩) (fun _ h => absurd h List.not_mem_nil) dX8_strength_38
    · refine lv_aload_n hx hb dX8_strength_24 rfl (lv_at hl 0 rfl) ?_
      refine va_get (D := E.1) (ci := 8) (v := .ref ga) (C := RX8) (T := TX8) (N := 10) hx hb hts hinX8 hown hK hP 0 rfl rfl 3 (by decide) (hts (.fieldLink RX8 32 "WornRings" "average" "LWornRings$Mean;") (by decide +kernel)) (fun _ h9 => h9) rfl dX8_strength_25 ?_
      refine lv_iload_n hx hb dX8_strength_28 rfl (lv_at hl 1 rfl) ?_
      refine rVlq hE hQ ⟨hx, hb, hml, hown, hts⟩ (c_X5_strengthAt l E tq ga av told gg o (ho9)) (cwV 1 hts gX8_strength_X5_strengthAt rfl rfl rfl (by decide +kernel) ⟨Nat.le_of_ble_eq_true rfl, Nat.le_of_ble_eq_true rfl⟩) (hP.sub [1, 2] rfl) 0 5 rfl rfl rfl hl.1 rfl (Nat.le_of_ble_eq_true rfl) dX8_strength_29 ⟨(Nat.zero_le _), (Nat.zero_le _)⟩ ?_
      refine lv_goto (tgt := 38) hx hb dX8_strength_32 (by decide) ?_
      exact W.lret (v := fSt gg o) hx hb hr (fun t9 ht9 hW9 => ⟨fSt gg o, rfl, by first | (rw [if_pos c_7, if_pos c_21]; done) | (rw [if_pos c_7, if_neg c_21, nI_clamp (by omega)]; done), ht9⟩) (fun _ h => absurd h List.not_mem_nil) dX8_strength_38
  · have c_7 := fWi_0 c_7
    refine lv_ldc2 (v := (-1)) hx hb hown (hts (.constantLong RX8 87 (-1)) (by decide +kernel)) dX8_strength_10 ?_
    exact W.lret (v := (-1)) hx hb hr (fun t9 ht9 hW9 => ⟨(-1), rfl, (if_neg c_7).symm, ht9⟩) (fun _ h => absurd h List.not_mem_nil) dX8_strength_13
