/-! the model: marks, lines, laws, loads -/
def pRk (g : Nat → Int32) (k i : Nat) : Bool := decide (g i < g k ∨ g i = g k ∧ i < k)
theorem pRk_t1 {g : Nat → Int32} {k i : Nat} (h : g i < g k) : pRk g k i = true := decide_eq_true (Or.inl h)
theorem pRk_t2 {g : Nat → Int32} {k i : Nat} (h : g i = g k) (h2 : i < k) : pRk g k i = true := decide_eq_true (Or.inr ⟨h, h2⟩)
theorem pRk_f1 {g : Nat → Int32} {k i : Nat} (h : ¬ g i < g k) (h2 : ¬ g i = g k) : pRk g k i = false := decide_eq_false (fun h9 => h9.elim h (fun h8 => h2 h8.1))
theorem pRk_f2 {g : Nat → Int32} {k i : Nat} (h : ¬ g i < g k) (h2 : ¬ i < k) : pRk g k i = false := decide_eq_false (fun h9 => h9.elim h (fun h8 => h2 h8.2))
theorem cnt_t {p : Nat → Bool} {i : Nat} (h : p i = true) : cnt p (i + 1) = cnt p i + 1 := by rw [cnt, h]; rfl
theorem cnt_f {p : Nat → Bool} {i : Nat} (h : p i = false) : cnt p (i + 1) = cnt p i + 0 := by rw [cnt, h]; rfl
def mF (g : Nat → Int32) : Nat → Nat → Int32
  | 0, _ => -4
  | n + 1, k => if cnt (pRk g k) 5 = 2 then g k else mF g n (k + 1)
def fMd (g : Nat → Int32) : Int32 := mF g 5 0
def bzM (W : Nat → Int32) : Nat → Nat
  | 0 => 0
  | n + 1 => bzM W n + bz (W n)
theorem bz_le (x : Int32) : bz x ≤ 1 := by unfold bz; split <;> omega
theorem bzM_le (W : Nat → Int32) : ∀ n, bzM W n ≤ n
  | 0 => Nat.le_refl _
  | n + 1 => by have h := bzM_le W n; have h2 := bz_le (W n); simp only [bzM]; omega

set_option maxHeartbeats 1000000 in
set_option maxRecDepth 100000 in
theorem c_X9_mark_no (l : Launch) (E : EnvT) (sz : Nat) (m0 : Nat) (sh : Int32) (rO : Nat) (rU : Nat) (rT : Nat) (rg : Int32) (rS : Nat) (rB : Nat) (rP : Nat) (rG : Nat) (ab0 : Int64) (be0 : Int64) (mk : Nat) (rM : Nat) (md : Int32) (rN : Nat) (rL : Nat) (rZ : Nat) (rE : Nat) (rI : Nat) (hc : Int32) (rA : Nat) (rX : Nat) (lnn : Int32) (rV : Nat) (rW : Nat) (sl : Int32) (rC : Nat) (rF : Nat) (rQ : Nat) (rK : Nat) (rR : Nat) (rD : Nat) (Ti : Nat → Nat) (tv : Int32) (hmk : mk ≤ 60) (hno : ¬ ((0 ≤ tv ∧ tv ≤ 1000000) ∧ ¬ (0 < mk ∧ tv ≤ nI (Ti (mk - 1)))) ∨ 60 ≤ mk) : Met l yX9_mark wsX9_mark ({ frames := 1, cells := 0, slots := 0, locals := 25 }) (va_Pc [.ref m0, .int tv] (PW E [(m0, .inr (9, [.int sh, .ref rO, .ref rU, .ref rT, .int rg, .ref rS, .ref rB, .ref rP, .ref rG, .long ab0, .long be0, .int (nI mk), .ref rM, .int md, .ref rN, .ref rL, .ref rZ, .ref rE, .ref rI, .int hc, .ref rA, .ref rX, .int lnn, .ref rV, .ref rW, .int sl, .ref rC, .ref rF, .ref rQ, .ref rK, .ref rR, .ref rD])), (rM, .inl (E.2 1, 60, .inl (nA Ti)))] sz)) (va_Qi (fun (r : Int32) (uu : Unit) => r = if (0 ≤ tv ∧ tv ≤ 1000000) ∧ ¬ (0 < mk ∧ tv ≤ nI (Ti (mk - 1))) then -3 else -1) (fun (uu : Unit) t => BW E (va_A [(m0, .inr (9, [.int sh, .ref rO, .ref rU, .ref rT, .int rg, .ref rS, .ref rB, .ref rP, .ref rG, .long ab0, .long be0, .int (nI mk), .ref rM, .int md, .ref rN, .ref rL, .ref rZ, .ref rE, .ref rI, .int hc, .ref rA, .ref rX, .int lnn, .ref rV, .ref rW, .int sl, .ref rC, .ref rF, .ref rQ, .ref rK, .ref rR, .ref rD])), (rM, .inl (E.2 1, 60, .inl (nA Ti)))] sz) [(m0, .inr (9, [.int sh, .ref rO, .ref rU, .ref rT, .int rg, .ref rS, .ref rB, .ref rP, .ref rG, .long ab0, .long be0, .int (nI mk), .ref rM, .int md, .ref rN, .ref rL, .ref rZ, .ref rE, .ref rI, .int hc, .ref rA, .ref rX, .int lnn, .ref rV, .ref rW, .int sl, .ref rC, .ref rF, .ref rQ, .ref rK, .ref rR, .ref rD])), (rM, .inl (E.2 1, 60, .inl (nA Ti)))] t) (va_A [(m0, .inr (9, [.int sh, .ref rO, .ref rU, .ref rT, .int rg, .ref rS, .ref rB, .ref rP, .ref rG, .long ab0, .long be0, .int (nI mk), .ref rM, .int md, .ref rN, .ref rL, .ref rZ, .ref rE, .ref rI, .int hc, .ref rA, .ref rX, .int lnn, .ref rV, .ref rW, .int sl, .ref rC, .ref rF, .ref rQ, .ref rK, .ref rR, .ref rD])), (rM, .inl (E.2 1, 60, .inl (nA Ti)))] sz)) 0 0 (va_A [(m0, .inr (9, [.int sh, .ref rO, .ref rU, .ref rT, .int rg, .ref rS, .ref rB, .ref rP, .ref rG, .long ab0, .long be0, .int (nI mk), .ref rM, .int md, .ref rN, .ref rL, .ref rZ, .ref rE, .ref rI, .int hc, .ref rA, .ref rX, .int lnn, .ref rV, .ref rW, .int sl, .ref rC, .ref rF, .ref rQ, .ref rK, .ref rR, .ref rD])), (rM, .inl (E.2 1, 60, .inl (nA Ti)))] sz) := by
  refine Met.ofW (cc := cX9_mark) (maxL := 2) (ret := (some .int)) (by decide +kernel) rfl ?_
  intro p e s m args below meth c s₁ B hml hv
  obtain ⟨rfl, hsz, hP, hE, hD0⟩ := hv
  have hx := B.exec
  have hb := B.bytes
  have hr := B.returns
  have hts := atoms_spec (ws := wsX9_mark) B.pre
  have hown : s.vm.findClass RX9 = some m.cls := findClass_of_methodNamed B.named
  have hlocks := B.notSynchronized
  have hK := hE.1
  have hNN := hE.2.1
  have hinX9 : ∀ w ∈ wsX90, w ∈ wsX9_mark := fun w h => List.mem_cons_of_mem _ (List.mem_append_right _ h)
  subst hsz
  have hD := hD0.self (sz := s.heap.size)
  generalize hAe : va_A [(m0, .inr (9, [.int sh, .ref rO, .ref rU, .ref rT, .int rg, .ref rS, .ref rB, .ref rP, .ref rG, .long ab0, .long be0, .int (nI mk), .ref rM, .int md, .ref rN, .ref rL, .ref rZ, .ref rE, .ref rI, .int hc, .ref rA, .ref rX, .int lnn, .ref rV, .ref rW, .int sl, .ref rC, .ref rF, .ref rQ, .ref rK, .ref rR, .ref rD])), (rM, .inl (E.2 1, 60, .inl (nA Ti)))] s.heap.size = A at hD ⊢
  have hA : ∀ q : Nat, s.heap.size ≤ q → A q := fun q h => by rw [← hAe]; exact Or.inr h
  have hS : va_S A s.heap s.heap [] := va_S.rf
  have hl := lv_entry ([.ref m0, .int tv]) (n := 2) (Nat.le_of_ble_eq_true rfl)
  rw [lg_entry_eq]
  generalize (lg_sl ([.ref m0, .int tv]) ++ List.replicate (2 - (lg_sl ([.ref m0, .int tv])).length) Slot.unset).toArray = ls at hl ⊢
  have hl : lv_has ls 2 [(0, .ref m0), (1, .int tv)] := hl
  refine lv_iload_n hx hb dX9_mark_0 rfl (lv_at hl 1 rfl) ?_
  refine lv_i2l (v := tv.toInt64) hx hb dX9_mark_1 (rfl) ?_
  refine lv_lconst (v := 0) hx hb dX9_mark_2 (by decide) ?_
  refine lv_ldc2 (v := 1000000) hx hb hown (hts (.constantLong RX9 146 (1000000)) (by decide +kernel)) dX9_mark_3 ?_
  refine rSi hE ⟨hx, hb, hml, hown, hts⟩ (c_X9_in l E tv.toInt64 0 1000000 ) (va_cwS 3 hts gX9_mark_X9_in rfl rfl rfl (by decide +kernel) ⟨Nat.le_of_ble_eq_true rfl, Nat.le_of_ble_eq_true rfl⟩) (hP.sub [] rfl) rfl hl.1 rfl (Nat.le_of_ble_eq_true rfl) dX9_mark_6 ⟨(Nat.zero_le _), (Nat.zero_le _)⟩ ?_
  rw [show fIn tv.toInt64 0 1000000 = fWi tv 0 1000000 from fIn_c (rfl) (by decide) (by decide)]
  refine lv_if_eq (tgt := 34) hx hb dX9_mark_9 (by decide) (fun c_9 => ?_) (fun c_9 => ?_)
  · have c_9 := fWi_0 c_9
    refine lv_iconst (v := (-1)) hx hb dX9_mark_34 (by decide) ?_
    have hP9 : va_P E.1 vwCl [(m0, .inr (9, [.int sh, .ref rO, .ref rU, .ref rT, .int rg, .ref rS, .ref rB, .ref rP, .ref rG, .long ab0, .long be0, .int (nI mk), .ref rM, .int md, .ref rN, .ref rL, .ref rZ, .ref rE, .ref rI, .int hc, .ref rA, .ref rX, .int lnn, .ref rV, .ref rW, .int sl, .ref rC, .ref rF, .ref rQ, .ref rK, .ref rR, .ref rD])), (rM, .inl (E.2 1, 60, .inl (nA Ti)))] s.heap := hP.sub [0, 1] rfl
    have hD9 : va_D A [(m0, .inr (9, [.int sh, .ref rO, .ref rU, .ref rT, .int rg, .ref rS, .ref rB, .ref rP, .ref rG, .long ab0, .long be0, .int (nI mk), .ref rM, .int md, .ref rN, .ref rL, .ref rZ, .ref rE, .ref rI, .int hc, .ref rA, .ref rX, .int lnn, .ref rV, .ref rW, .int sl, .ref rC, .ref rF, .ref rQ, .ref rK, .ref rR, .ref rD])), (rM, .inl (E.2 1, 60, .inl (nA Ti)))] := hD.sub [0, 1] (by decide) rfl
    exact W.iret (v := (-1)) hx hb hr (fun t9 ht9 hW9 => ⟨⟨(-1), (), rfl, by first | exact (if_neg (fun h9 => c_9 h9.1)).symm | exact (if_neg (fun h9 => h9.2 ⟨by omega, c_31⟩)).symm, ⟨by rw [ht9]; exact hP9, hD9⟩⟩, hS.F ht9⟩) hS.2.2 dX9_mark_35
  · have c_9 := fWi_1 c_9
    refine lv_aload_n hx hb dX9_mark_12 rfl (lv_at hl 0 rfl) ?_
    refine va_get (D := E.1) (ci := 9) (v := .int (nI mk)) (C := RX9) (T := TX9) (N := 32) hx hb hts hinX9 hown hK hP 0 rfl rfl 11 (by decide) (hts (.fieldLink RX9 148 "WornRingsModel" "marks" "I") (by decide +kernel)) (fun _ h9 => h9) rfl dX9_mark_13 ?_
    refine lv_if_le (tgt := 36) hx hb dX9_mark_16 (by decide) (fun c_16 => ?_) (fun c_16 => ?_)
    · have c_16 : mk ≤ 0 := (nI_leI (a := mk) (b := 0) (by omega) (by omega)).mp c_16
      refine lv_aload_n hx hb dX9_mark_36 rfl (lv_at hl 0 rfl) ?_
      refine va_get (D := E.1) (ci := 9) (v := .int (nI mk)) (C := RX9) (T := TX9) (N := 32) hx hb hts hinX9 hown hK hP 0 rfl rfl 11 (by decide) (hts (.fieldLink RX9 148 "WornRingsModel" "marks" "I") (by decide +kernel)) (fun _ h9 => h9) rfl dX9_mark_37 ?_
      refine lv_bipush (v := 60) hx hb dX9_mark_40 (by decide) ?_
      refine lv_icmp_ne (tgt := 48) hx hb dX9_mark_42 (by decide) (fun c_42 => by exfalso; have c_42 : ¬ mk = 60 := fun h9 => c_42 ((nI_eq (a := mk) (b := 60) (by omega) (by omega)).mpr h9); first | exact hno.elim (fun h9 => h9 ⟨c_9, fun h8 => absurd h8.1 (by omega)⟩) (fun h9 => by omega) | exact hno.elim (fun h9 => h9 ⟨c_9, fun h8 => c_31 h8.2⟩) (fun h9 => by omega)) (fun c_42 => ?_)
      have c_42 : mk = 60 := (nI_eq (a := mk) (b := 60) (by omega) (by omega)).mp c_42
      refine lv_bipush (v := (-3)) hx hb dX9_mark_45 (by decide) ?_
      have hP9 : va_P E.1 vwCl [(m0, .inr (9, [.int sh, .ref rO, .ref rU, .ref rT, .int rg, .ref rS, .ref rB, .ref rP, .ref rG, .long ab0, .long be0, .int (nI mk), .ref rM, .int md, .ref rN, .ref rL, .ref rZ, .ref rE, .ref rI, .int hc, .ref rA, .ref rX, .int lnn, .ref rV, .ref rW, .int sl, .ref rC, .ref rF, .ref rQ, .ref rK, .ref rR, .ref rD])), (rM, .inl (E.2 1, 60, .inl (nA Ti)))] s.heap := hP.sub [0, 1] rfl
      have hD9 : va_D A [(m0, .inr (9, [.int sh, .ref rO, .ref rU, .ref rT, .int rg, .ref rS, .ref rB, .ref rP, .ref rG, .long ab0, .long be0, .int (nI mk), .ref rM, .int md, .ref rN, .ref rL, .ref rZ, .ref rE, .ref rI, .int hc, .ref rA, .ref rX, .int lnn, .ref rV, .ref rW, .int sl, .ref rC, .ref rF, .ref rQ, .ref rK, .ref rR, .ref rD])), (rM, .inl (E.2 1, 60, .inl (nA Ti)))] := hD.sub [0, 1] (by decide) rfl
      exact W.iret (v := (-3)) hx hb hr (fun t9 ht9 hW9 => ⟨⟨(-3), (), rfl, by first | exact (if_pos ⟨c_9, fun h8 => absurd h8.1 (by omega)⟩).symm | exact (if_pos ⟨c_9, fun h8 => c_31 h8.2⟩).symm, ⟨by rw [ht9]; exact hP9, hD9⟩⟩, hS.F ht9⟩) hS.2.2 dX9_mark_47
    · have c_16 : ¬ mk ≤ 0 := fun h9 => c_16 ((nI_leI (a := mk) (b := 0) (by omega) (by omega)).mpr h9)
      refine lv_iload_n hx hb dX9_mark_19 rfl (lv_at hl 1 rfl) ?_
      refine lv_aload_n hx hb dX9_mark_20 rfl (lv_at hl 0 rfl) ?_
      refine va_get (D := E.1) (ci := 9) (v := .ref rM) (C := RX9) (T := TX9) (N := 32) hx hb hts hinX9 hown hK hP 0 rfl rfl 12 (by decide) (hts (.fieldLink RX9 36 "WornRingsModel" "times" "[I") (by decide +kernel)) (fun _ h9 => h9) rfl dX9_mark_21 ?_
      refine lv_aload_n hx hb dX9_mark_24 rfl (lv_at hl 0 rfl) ?_
      refine va_get (D := E.1) (ci := 9) (v := .int (nI mk)) (C := RX9) (T := TX9) (N := 32) hx hb hts hinX9 hown hK hP 0 rfl rfl 11 (by decide) (hts (.fieldLink RX9 148 "WornRingsModel" "marks" "I") (by decide +kernel)) (fun _ h9 => h9) rfl dX9_mark_25 ?_
      refine lv_iconst (v := 1) hx hb dX9_mark_28 (by decide) ?_
      refine lv_isub hx hb dX9_mark_29 ?_
      rw [show ((nI mk) - (1 : Int32) : Int32) = nI (mk - 1) from pk_sub (a := mk) (b := 1) (by omega)]
      refine va_iald hx hb hK hP 1 1 rfl rfl (vp_in_nI (by omega) (by omega)) dX9_mark_30 ?_
      rw [nI_clamp (n := mk - 1) (by omega)]
      refine W.eq (g2 := F0 m 31 ls [.int (nI (Ti (mk - 1))), .int tv]) rfl ?_
      refine lv_icmp_gt (tgt := 36) hx hb dX9_mark_31 (by decide) (fun c_31 => ?_) (fun c_31 => ?_)
      · have c_31 := Int32.not_le.mpr c_31
        refine lv_aload_n hx hb dX9_mark_36 rfl (lv_at hl 0 rfl) ?_
        refine va_get (D := E.1) (ci := 9) (v := .int (nI mk)) (C := RX9) (T := TX9) (N := 32) hx hb hts hinX9 hown hK hP 0 rfl rfl 11 (by decide) (hts (.fieldLink RX9 148 "WornRingsModel" "marks" "I") (by decide +kernel)) (fun _ h9 => h9) rfl dX9_mark_37 ?_
        refine lv_bipush (v := 60) hx hb dX9_mark_40 (by decide) ?_
        refine lv_icmp_ne (tgt := 48) hx hb dX9_mark_42 (by decide) (fun c_42 => by exfalso; have c_42 : ¬ mk = 60 := fun h9 => c_42 ((nI_eq (a := mk) (b := 60) (by omega) (by omega)).mpr h9); first | exact hno.elim (fun h9 => h9 ⟨c_9, fun h8 => absurd h8.1 (by omega)⟩) (fun h9 => by omega) | exact hno.elim (fun h9 => h9 ⟨c_9, fun h8 => c_31 h8.2⟩) (fun h9 => by omega)) (fun c_42 => ?_)
        have c_42 : mk = 60 := (nI_eq (a := mk) (b := 60) (by omega) (by omega)).mp c_42
        refine lv_bipush (v := (-3)) hx hb dX9_mark_45 (by decide) ?_
        have hP9 : va_P E.1 vwCl [(m0, .inr (9, [.int sh, .ref rO, .ref rU, .ref rT, .int rg, .ref rS, .ref rB, .ref rP, .ref rG, .long ab0, .long be0, .int (nI mk), .ref rM, .int md, .ref rN, .ref rL, .ref rZ, .ref rE, .ref rI, .int hc, .ref rA, .ref rX, .int lnn, .ref rV, .ref rW, .int sl, .ref rC, .ref rF, .ref rQ, .ref rK, .ref rR, .ref rD])), (rM, .inl (E.2 1, 60, .inl (nA Ti)))] s.heap := hP.sub [0, 1] rfl
        have hD9 : va_D A [(m0, .inr (9, [.int sh, .ref rO, .ref rU, .ref rT, .int rg, .ref rS, .ref rB, .ref rP, .ref rG, .long ab0, .long be0, .int (nI mk), .ref rM, .int md, .ref rN, .ref rL, .ref rZ, .ref rE, .ref rI, .int hc, .ref rA, .ref rX, .int lnn, .ref rV, .ref rW, .int sl, .ref rC, .ref rF, .ref rQ, .ref rK, .ref rR, .ref rD])), (rM, .inl (E.2 1, 60, .inl (nA Ti)))] := hD.sub [0, 1] (by decide) rfl
        exact W.iret (v := (-3)) hx hb hr (fun t9 ht9 hW9 => ⟨⟨(-3), (), rfl, by first | exact (if_pos ⟨c_9, fun h8 => absurd h8.1 (by omega)⟩).symm | exact (if_pos ⟨c_9, fun h8 => c_31 h8.2⟩).symm, ⟨by rw [ht9]; exact hP9, hD9⟩⟩, hS.F ht9⟩) hS.2.2 dX9_mark_47
      · have c_31 := Int32.not_lt.mp c_31
        refine lv_iconst (v := (-1)) hx hb dX9_mark_34 (by decide) ?_
        have hP9 : va_P E.1 vwCl [(m0, .inr (9, [.int sh, .ref rO, .ref rU, .ref rT, .int rg, .ref rS, .ref rB, .ref rP, .ref rG, .long ab0, .long be0, .int (nI mk), .ref rM, .int md, .ref rN, .ref rL, .ref rZ, .ref rE, .ref rI, .int hc, .ref rA, .ref rX, .int lnn, .ref rV, .ref rW, .int sl, .ref rC, .ref rF, .ref rQ, .ref rK, .ref rR, .ref rD])), (rM, .inl (E.2 1, 60, .inl (nA Ti)))] s.heap := hP.sub [0, 1] rfl
        have hD9 : va_D A [(m0, .inr (9, [.int sh, .ref rO, .ref rU, .ref rT, .int rg, .ref rS, .ref rB, .ref rP, .ref rG, .long ab0, .long be0, .int (nI mk), .ref rM, .int md, .ref rN, .ref rL, .ref rZ, .ref rE, .ref rI, .int hc, .ref rA, .ref rX, .int lnn, .ref rV, .ref rW, .int sl, .ref rC, .ref rF, .ref rQ, .ref rK, .ref rR, .ref rD])), (rM, .inl (E.2 1, 60, .inl (nA Ti)))] := hD.sub [0, 1] (by decide) rfl
        exact W.iret (v := (-1)) hx hb hr (fun t9 ht9 hW9 => ⟨⟨(-1), (), rfl, by first | exact (if_neg (fun h9 => c_9 h9.1)).symm | exact (if_neg (fun h9 => h9.2 ⟨by omega, c_31⟩)).symm, ⟨by rw [ht9]; exact hP9, hD9⟩⟩, hS.F ht9⟩) hS.2.2 dX9_mark_35
set_option maxHeartbeats 1000000 in
set_option maxRecDepth 100000 in
theorem c_X9_mark_yes (l : Launch) (E : EnvT) (sz : Nat) (m0 : Nat) (sh : Int32) (rO : Nat) (rU : Nat) (rT : Nat) (rg : Int32) (rS : Nat) (rB : Nat) (rP : Nat) (rG : Nat) (ab0 : Int64) (be0 : Int64) (mk : Nat) (rM : Nat) (md : Int32) (rN : Nat) (rL : Nat) (rZ : Nat) (rE : Nat) (rI : Nat) (hc : Int32) (rA : Nat) (rX : Nat) (lnn : Int32) (rV : Nat) (rW : Nat) (sl : Int32) (rC : Nat) (rF : Nat) (rQ : Nat) (rK : Nat) (rR : Nat) (rD : Nat) (Ti : Nat → Nat) (x : Nat) (hx1 : x ≤ 1000000) (hx2 : 0 < mk → Ti (mk - 1) < x) (hk6 : mk < 60) : Met l yX9_mark wsX9_mark ({ frames := 1, cells := 0, slots := 0, locals := 25 }) (va_Pc [.ref m0, .int (nI x)] (PW E [(m0, .inr (9, [.int sh, .ref rO, .ref rU, .ref rT, .int rg, .ref rS, .ref rB, .ref rP, .ref rG, .long ab0, .long be0, .int (nI mk), .ref rM, .int md, .ref rN, .ref rL, .ref rZ, .ref rE, .ref rI, .int hc, .ref rA, .ref rX, .int lnn, .ref rV, .ref rW, .int sl, .ref rC, .ref rF, .ref rQ, .ref rK, .ref rR, .ref rD])), (rM, .inl (E.2 1, 60, .inl (nA Ti)))] sz)) (va_Qi (fun (r : Int32) (uu : Unit) => r = nI (mk + 1)) (fun (uu : Unit) t => BW E (va_A [(m0, .inr (9, [.int sh, .ref rO, .ref rU, .ref rT, .int rg, .ref rS, .ref rB, .ref rP, .ref rG, .long ab0, .long be0, .int (nI mk), .ref rM, .int md, .ref rN, .ref rL, .ref rZ, .ref rE, .ref rI, .int hc, .ref rA, .ref rX, .int lnn, .ref rV, .ref rW, .int sl, .ref rC, .ref rF, .ref rQ, .ref rK, .ref rR, .ref rD])), (rM, .inl (E.2 1, 60, .inl (nA Ti)))] sz) [(m0, .inr (9, [.int sh, .ref rO, .ref rU, .ref rT, .int rg, .ref rS, .ref rB, .ref rP, .ref rG, .long ab0, .long be0, .int (nI (mk + 1)), .ref rM, .int md, .ref rN, .ref rL, .ref rZ, .ref rE, .ref rI, .int hc, .ref rA, .ref rX, .int lnn, .ref rV, .ref rW, .int sl, .ref rC, .ref rF, .ref rQ, .ref rK, .ref rR, .ref rD])), (rM, .inl (E.2 1, 60, .inl (nA (updN Ti mk x))))] t) (va_A [(m0, .inr (9, [.int sh, .ref rO, .ref rU, .ref rT, .int rg, .ref rS, .ref rB, .ref rP, .ref rG, .long ab0, .long be0, .int (nI mk), .ref rM, .int md, .ref rN, .ref rL, .ref rZ, .ref rE, .ref rI, .int hc, .ref rA, .ref rX, .int lnn, .ref rV, .ref rW, .int sl, .ref rC, .ref rF, .ref rQ, .ref rK, .ref rR, .ref rD])), (rM, .inl (E.2 1, 60, .inl (nA Ti)))] sz)) 0 0 (va_A [(m0, .inr (9, [.int sh, .ref rO, .ref rU, .ref rT, .int rg, .ref rS, .ref rB, .ref rP, .ref rG, .long ab0, .long be0, .int (nI mk), .ref rM, .int md, .ref rN, .ref rL, .ref rZ, .ref rE, .ref rI, .int hc, .ref rA, .ref rX, .int lnn, .ref rV, .ref rW, .int sl, .ref rC, .ref rF, .ref rQ, .ref rK, .ref rR, .ref rD])), (rM, .inl (E.2 1, 60, .inl (nA Ti)))] sz) := by
  refine Met.ofW (cc := cX9_mark) (maxL := 2) (ret := (some .int)) (by decide +kernel) rfl ?_
  intro p e s m args below meth c s₁ B hml hv
  obtain ⟨rfl, hsz, hP, hE, hD0⟩ := hv
  have hx := B.exec
  have hb := B.bytes
  have hr := B.returns
  have hts := atoms_spec (ws := wsX9_mark) B.pre
  have hown : s.vm.findClass RX9 = some m.cls := findClass_of_methodNamed B.named
  have hlocks := B.notSynchronized
  have hK := hE.1
  have hNN := hE.2.1
  have hinX9 : ∀ w ∈ wsX90, w ∈ wsX9_mark := fun w h => List.mem_cons_of_mem _ (List.mem_append_right _ h)
  subst hsz
  have hD := hD0.self (sz := s.heap.size)
  generalize hAe : va_A [(m0, .inr (9, [.int sh, .ref rO, .ref rU, .ref rT, .int rg, .ref rS, .ref rB, .ref rP, .ref rG, .long ab0, .long be0, .int (nI mk), .ref rM, .int md, .ref rN, .ref rL, .ref rZ, .ref rE, .ref rI, .int hc, .ref rA, .ref rX, .int lnn, .ref rV, .ref rW, .int sl, .ref rC, .ref rF, .ref rQ, .ref rK, .ref rR, .ref rD])), (rM, .inl (E.2 1, 60, .inl (nA Ti)))] s.heap.size = A at hD ⊢
  have hA : ∀ q : Nat, s.heap.size ≤ q → A q := fun q h => by rw [← hAe]; exact Or.inr h
  have hS : va_S A s.heap s.heap [] := va_S.rf
  have hl := lv_entry ([.ref m0, .int (nI x)]) (n := 2) (Nat.le_of_ble_eq_true rfl)
  rw [lg_entry_eq]
  generalize (lg_sl ([.ref m0, .int (nI x)]) ++ List.replicate (2 - (lg_sl ([.ref m0, .int (nI x)])).length) Slot.unset).toArray = ls at hl ⊢
  have hl : lv_has ls 2 [(0, .ref m0), (1, .int (nI x))] := hl
  refine lv_iload_n hx hb dX9_mark_0 rfl (lv_at hl 1 rfl) ?_
  refine lv_i2l (v := lN x) hx hb dX9_mark_1 (nI_l (by omega)) ?_
  refine lv_lconst (v := 0) hx hb dX9_mark_2 (by decide) ?_
  refine lv_ldc2 (v := 1000000) hx hb hown (hts (.constantLong RX9 146 (1000000)) (by decide +kernel)) dX9_mark_3 ?_
  refine rSi hE ⟨hx, hb, hml, hown, hts⟩ (c_X9_in l E (lN x) 0 1000000 ) (va_cwS 3 hts gX9_mark_X9_in rfl rfl rfl (by decide +kernel) ⟨Nat.le_of_ble_eq_true rfl, Nat.le_of_ble_eq_true rfl⟩) (hP.sub [] rfl) rfl hl.1 rfl (Nat.le_of_ble_eq_true rfl) dX9_mark_6 ⟨(Nat.zero_le _), (Nat.zero_le _)⟩ ?_
  rw [show fIn (lN x) 0 1000000 = fWi (nI x) 0 1000000 from fIn_c (nI_l (by omega)) (by decide) (by decide)]
  refine lv_if_eq (tgt := 34) hx hb dX9_mark_9 (by decide) (fun c_9 => by exfalso; have c_9 := fWi_0 c_9; exact c_9 ⟨nI_pos' (by omega), nI_le (b := 1000000) (by omega) (by omega)⟩) (fun c_9 => ?_)
  have c_9 := fWi_1 c_9
  refine lv_aload_n hx hb dX9_mark_12 rfl (lv_at hl 0 rfl) ?_
  refine va_get (D := E.1) (ci := 9) (v := .int (nI mk)) (C := RX9) (T := TX9) (N := 32) hx hb hts hinX9 hown hK hP 0 rfl rfl 11 (by decide) (hts (.fieldLink RX9 148 "WornRingsModel" "marks" "I") (by decide +kernel)) (fun _ h9 => h9) rfl dX9_mark_13 ?_
  refine lv_if_le (tgt := 36) hx hb dX9_mark_16 (by decide) (fun c_16 => ?_) (fun c_16 => ?_)
  · have c_16 : mk ≤ 0 := (nI_leI (a := mk) (b := 0) (by omega) (by omega)).mp c_16
    refine lv_aload_n hx hb dX9_mark_36 rfl (lv_at hl 0 rfl) ?_
    refine va_get (D := E.1) (ci := 9) (v := .int (nI mk)) (C := RX9) (T := TX9) (N := 32) hx hb hts hinX9 hown hK hP 0 rfl rfl 11 (by decide) (hts (.fieldLink RX9 148 "WornRingsModel" "marks" "I") (by decide +kernel)) (fun _ h9 => h9) rfl dX9_mark_37 ?_
    refine lv_bipush (v := 60) hx hb dX9_mark_40 (by decide) ?_
    refine lv_icmp_ne (tgt := 48) hx hb dX9_mark_42 (by decide) (fun c_42 => ?_) (fun c_42 => by exfalso; have c_42 : mk = 60 := (nI_eq (a := mk) (b := 60) (by omega) (by omega)).mp c_42; omega)
    have c_42 : ¬ mk = 60 := fun h9 => c_42 ((nI_eq (a := mk) (b := 60) (by omega) (by omega)).mpr h9)
    refine lv_aload_n hx hb dX9_mark_48 rfl (lv_at hl 0 rfl) ?_
    refine va_get (D := E.1) (ci := 9) (v := .ref rM) (C := RX9) (T := TX9) (N := 32) hx hb hts hinX9 hown hK hP 0 rfl rfl 12 (by decide) (hts (.fieldLink RX9 36 "WornRingsModel" "times" "[I") (by decide +kernel)) (fun _ h9 => h9) rfl dX9_mark_49 ?_
    refine lv_aload_n hx hb dX9_mark_52 rfl (lv_at hl 0 rfl) ?_
    refine va_get (D := E.1) (ci := 9) (v := .int (nI mk)) (C := RX9) (T := TX9) (N := 32) hx hb hts hinX9 hown hK hP 0 rfl rfl 11 (by decide) (hts (.fieldLink RX9 148 "WornRingsModel" "marks" "I") (by decide +kernel)) (fun _ h9 => h9) rfl dX9_mark_53 ?_
    refine lv_iload_n hx hb dX9_mark_56 rfl (lv_at hl 1 rfl) ?_
    refine va_iast hx hb hK hP hD hS 1 1 rfl rfl (vp_in_nI (by omega) (by omega)) dX9_mark_57 (fun H locs hP hD hS => ?_)
    rw [nI_clamp (n := mk) (by omega)] at hP hD
    rw [show upd (nA Ti) mk (nI x) = nA (updN Ti mk x) from upd_nA _ _ _] at hP hD
    have hP : va_P E.1 vwCl [(m0, .inr (9, [.int sh, .ref rO, .ref rU, .ref rT, .int rg, .ref rS, .ref rB, .ref rP, .ref rG, .long ab0, .long be0, .int (nI mk), .ref rM, .int md, .ref rN, .ref rL, .ref rZ, .ref rE, .ref rI, .int hc, .ref rA, .ref rX, .int lnn, .ref rV, .ref rW, .int sl, .ref rC, .ref rF, .ref rQ, .ref rK, .ref rR, .ref rD])), (rM, .inl (E.2 1, 60, .inl (nA (updN Ti mk x))))] H := hP
    have hD : va_D A [(m0, .inr (9, [.int sh, .ref rO, .ref rU, .ref rT, .int rg, .ref rS, .ref rB, .ref rP, .ref rG, .long ab0, .long be0, .int (nI mk), .ref rM, .int md, .ref rN, .ref rL, .ref rZ, .ref rE, .ref rI, .int hc, .ref rA, .ref rX, .int lnn, .ref rV, .ref rW, .int sl, .ref rC, .ref rF, .ref rQ, .ref rK, .ref rR, .ref rD])), (rM, .inl (E.2 1, 60, .inl (nA (updN Ti mk x))))] := hD
    refine lv_aload_n hx hb dX9_mark_58 rfl (lv_at hl 0 rfl) ?_
    refine lv_dup hx hb dX9_mark_59 rfl ?_
    refine va_get (D := E.1) (ci := 9) (v := .int (nI mk)) (C := RX9) (T := TX9) (N := 32) hx hb hts hinX9 hown hK hP 0 rfl rfl 11 (by decide) (hts (.fieldLink RX9 148 "WornRingsModel" "marks" "I") (by decide +kernel)) (fun _ h9 => h9) rfl dX9_mark_60 ?_
    refine lv_iconst (v := 1) hx hb dX9_mark_63 (by decide) ?_
    refine lv_iadd hx hb dX9_mark_64 ?_
    rw [show ((nI mk) + (1 : Int32) : Int32) = nI (mk + 1) from nI_add mk 1]
    refine va_put (D := E.1) (ci := 9) (v := .int (nI (mk + 1))) (ty := .int) (C := RX9) (T := TX9) (N := 32) hx hb hts hinX9 tyX9 tyX9_ok nmX9 hown hK hP hD hS 0 rfl rfl 11 (by decide) (hts (.fieldLink RX9 148 "WornRingsModel" "marks" "I") (by decide +kernel)) (fun _ h9 => h9) rfl (by decide +kernel) (rfl) (rfl) (Nat.le_of_ble_eq_true rfl) dX9_mark_65 (fun H locs hP hD hS => ?_)
    have hP : va_P E.1 vwCl [(m0, .inr (9, [.int sh, .ref rO, .ref rU, .ref rT, .int rg, .ref rS, .ref rB, .ref rP, .ref rG, .long ab0, .long be0, .int (nI (mk + 1)), .ref rM, .int md, .ref rN, .ref rL, .ref rZ, .ref rE, .ref rI, .int hc, .ref rA, .ref rX, .int lnn, .ref rV, .ref rW, .int sl, .ref rC, .ref rF, .ref rQ, .ref rK, .ref rR, .ref rD])), (rM, .inl (E.2 1, 60, .inl (nA (updN Ti mk x))))] H := hP
    have hD : va_D A [(m0, .inr (9, [.int sh, .ref rO, .ref rU, .ref rT, .int rg, .ref rS, .ref rB, .ref rP, .ref rG, .long ab0, .long be0, .int (nI (mk + 1)), .ref rM, .int md, .ref rN, .ref rL, .ref rZ, .ref rE, .ref rI, .int hc, .ref rA, .ref rX, .int lnn, .ref rV, .ref rW, .int sl, .ref rC, .ref rF, .ref rQ, .ref rK, .ref rR, .ref rD])), (rM, .inl (E.2 1, 60, .inl (nA (updN Ti mk x))))] := hD
    refine lv_aload_n hx hb dX9_mark_68 rfl (lv_at hl 0 rfl) ?_
    refine va_get (D := E.1) (ci := 9) (v := .int (nI (mk + 1))) (C := RX9) (T := TX9) (N := 32) hx hb hts hinX9 hown hK hP 0 rfl rfl 11 (by decide) (hts (.fieldLink RX9 148 "WornRingsModel" "marks" "I") (by decide +kernel)) (fun _ h9 => h9) rfl dX9_mark_69 ?_
    have hP9 : va_P E.1 vwCl [(m0, .inr (9, [.int sh, .ref rO, .ref rU, .ref rT, .int rg, .ref rS, .ref rB, .ref rP, .ref rG, .long ab0, .long be0, .int (nI (mk + 1)), .ref rM, .int md, .ref rN, .ref rL, .ref rZ, .ref rE, .ref rI, .int hc, .ref rA, .ref rX, .int lnn, .ref rV, .ref rW, .int sl, .ref rC, .ref rF, .ref rQ, .ref rK, .ref rR, .ref rD])), (rM, .inl (E.2 1, 60, .inl (nA (updN Ti mk x))))] H := hP.sub [0, 1] rfl
    have hD9 : va_D A [(m0, .inr (9, [.int sh, .ref rO, .ref rU, .ref rT, .int rg, .ref rS, .ref rB, .ref rP, .ref rG, .long ab0, .long be0, .int (nI (mk + 1)), .ref rM, .int md, .ref rN, .ref rL, .ref rZ, .ref rE, .ref rI, .int hc, .ref rA, .ref rX, .int lnn, .ref rV, .ref rW, .int sl, .ref rC, .ref rF, .ref rQ, .ref rK, .ref rR, .ref rD])), (rM, .inl (E.2 1, 60, .inl (nA (updN Ti mk x))))] := hD.sub [0, 1] (by decide) rfl
    exact W.iret (v := nI (mk + 1)) hx hb hr (fun t9 ht9 hW9 => ⟨⟨nI (mk + 1), (), rfl, rfl, ⟨by rw [ht9]; exact hP9, hD9⟩⟩, hS.F ht9⟩) hS.2.2 dX9_mark_72
  · have c_16 : ¬ mk ≤ 0 := fun h9 => c_16 ((nI_leI (a := mk) (b := 0) (by omega) (by omega)).mpr h9)
    refine lv_iload_n hx hb dX9_mark_19 rfl (lv_at hl 1 rfl) ?_
    refine lv_aload_n hx hb dX9_mark_20 rfl (lv_at hl 0 rfl) ?_
    refine va_get (D := E.1) (ci := 9) (v := .ref rM) (C := RX9) (T := TX9) (N := 32) hx hb hts hinX9 hown hK hP 0 rfl rfl 12 (by decide) (hts (.fieldLink RX9 36 "WornRingsModel" "times" "[I") (by decide +kernel)) (fun _ h9 => h9) rfl dX9_mark_21 ?_
    refine lv_aload_n hx hb dX9_mark_24 rfl (lv_at hl 0 rfl) ?_
    refine va_get (D := E.1) (ci := 9) (v := .int (nI mk)) (C := RX9) (T := TX9) (N := 32) hx hb hts hinX9 hown hK hP 0 rfl rfl 11 (by decide) (hts (.fieldLink RX9 148 "WornRingsModel" "marks" "I") (by decide +kernel)) (fun _ h9 => h9) rfl dX9_mark_25 ?_
    refine lv_iconst (v := 1) hx hb dX9_mark_28 (by decide) ?_
    refine lv_isub hx hb dX9_mark_29 ?_
    rw [show ((nI mk) - (1 : Int32) : Int32) = nI (mk - 1) from pk_sub (a := mk) (b := 1) (by omega)]
    refine va_iald hx hb hK hP 1 1 rfl rfl (vp_in_nI (by omega) (by omega)) dX9_mark_30 ?_
    rw [nI_clamp (n := mk - 1) (by omega)]
    refine W.eq (g2 := F0 m 31 ls [.int (nI (Ti (mk - 1))), .int (nI x)]) rfl ?_
    refine lv_icmp_gt (tgt := 36) hx hb dX9_mark_31 (by decide) (fun c_31 => ?_) (fun c_31 => by exfalso; have h9 := hx2 (by omega); exact c_31 (nI_lt h9 (by omega)))
    refine lv_aload_n hx hb dX9_mark_36 rfl (lv_at hl 0 rfl) ?_
    refine va_get (D := E.1) (ci := 9) (v := .int (nI mk)) (C := RX9) (T := TX9) (N := 32) hx hb hts hinX9 hown hK hP 0 rfl rfl 11 (by decide) (hts (.fieldLink RX9 148 "WornRingsModel" "marks" "I") (by decide +kernel)) (fun _ h9 => h9) rfl dX9_mark_37 ?_
    refine lv_bipush (v := 60) hx hb dX9_mark_40 (by decide) ?_
    refine lv_icmp_ne (tgt := 48) hx hb dX9_mark_42 (by decide) (fun c_42 => ?_) (fun c_42 => by exfalso; have c_42 : mk = 60 := (nI_eq (a := mk) (b := 60) (by omega) (by omega)).mp c_42; omega)
    have c_42 : ¬ mk = 60 := fun h9 => c_42 ((nI_eq (a := mk) (b := 60) (by omega) (by omega)).mpr h9)
    refine lv_aload_n hx hb dX9_mark_48 rfl (lv_at hl 0 rfl) ?_
    refine va_get (D := E.1) (ci := 9) (v := .ref rM) (C := RX9) (T := TX9) (N := 32) hx hb hts hinX9 hown hK hP 0 rfl rfl 12 (by decide) (hts (.fieldLink RX9 36 "WornRingsModel" "times" "[I") (by decide +kernel)) (fun _ h9 => h9) rfl dX9_mark_49 ?_
    refine lv_aload_n hx hb dX9_mark_52 rfl (lv_at hl 0 rfl) ?_
    refine va_get (D := E.1) (ci := 9) (v := .int (nI mk)) (C := RX9) (T := TX9) (N := 32) hx hb hts hinX9 hown hK hP 0 rfl rfl 11 (by decide) (hts (.fieldLink RX9 148 "WornRingsModel" "marks" "I") (by decide +kernel)) (fun _ h9 => h9) rfl dX9_mark_53 ?_
    refine lv_iload_n hx hb dX9_mark_56 rfl (lv_at hl 1 rfl) ?_
    refine va_iast hx hb hK hP hD hS 1 1 rfl rfl (vp_in_nI (by omega) (by omega)) dX9_mark_57 (fun H locs hP hD hS => ?_)
    rw [nI_clamp (n := mk) (by omega)] at hP hD
    rw [show upd (nA Ti) mk (nI x) = nA (updN Ti mk x) from upd_nA _ _ _] at hP hD
    have hP : va_P E.1 vwCl [(m0, .inr (9, [.int sh, .ref rO, .ref rU, .ref rT, .int rg, .ref rS, .ref rB, .ref rP, .ref rG, .long ab0, .long be0, .int (nI mk), .ref rM, .int md, .ref rN, .ref rL, .ref rZ, .ref rE, .ref rI, .int hc, .ref rA, .ref rX, .int lnn, .ref rV, .ref rW, .int sl, .ref rC, .ref rF, .ref rQ, .ref rK, .ref rR, .ref rD])), (rM, .inl (E.2 1, 60, .inl (nA (updN Ti mk x))))] H := hP
    have hD : va_D A [(m0, .inr (9, [.int sh, .ref rO, .ref rU, .ref rT, .int rg, .ref rS, .ref rB, .ref rP, .ref rG, .long ab0, .long be0, .int (nI mk), .ref rM, .int md, .ref rN, .ref rL, .ref rZ, .ref rE, .ref rI, .int hc, .ref rA, .ref rX, .int lnn, .ref rV, .ref rW, .int sl, .ref rC, .ref rF, .ref rQ, .ref rK, .ref rR, .ref rD])), (rM, .inl (E.2 1, 60, .inl (nA (updN Ti mk x))))] := hD
    refine lv_aload_n hx hb dX9_mark_58 rfl (lv_at hl 0 rfl) ?_
    refine lv_dup hx hb dX9_mark_59 rfl ?_
    refine va_get (D := E.1) (ci := 9) (v := .int (nI mk)) (C := RX9) (T := TX9) (N := 32) hx hb hts hinX9 hown hK hP 0 rfl rfl 11 (by decide) (hts (.fieldLink RX9 148 "WornRingsModel" "marks" "I") (by decide +kernel)) (fun _ h9 => h9) rfl dX9_mark_60 ?_
    refine lv_iconst (v := 1) hx hb dX9_mark_63 (by decide) ?_
    refine lv_iadd hx hb dX9_mark_64 ?_
    rw [show ((nI mk) + (1 : Int32) : Int32) = nI (mk + 1) from nI_add mk 1]
    refine va_put (D := E.1) (ci := 9) (v := .int (nI (mk + 1))) (ty := .int) (C := RX9) (T := TX9) (N := 32) hx hb hts hinX9 tyX9 tyX9_ok nmX9 hown hK hP hD hS 0 rfl rfl 11 (by decide) (hts (.fieldLink RX9 148 "WornRingsModel" "marks" "I") (by decide +kernel)) (fun _ h9 => h9) rfl (by decide +kernel) (rfl) (rfl) (Nat.le_of_ble_eq_true rfl) dX9_mark_65 (fun H locs hP hD hS => ?_)
    have hP : va_P E.1 vwCl [(m0, .inr (9, [.int sh, .ref rO, .ref rU, .ref rT, .int rg, .ref rS, .ref rB, .ref rP, .ref rG, .long ab0, .long be0, .int (nI (mk + 1)), .ref rM, .int md, .ref rN, .ref rL, .ref rZ, .ref rE, .ref rI, .int hc, .ref rA, .ref rX, .int lnn, .ref rV, .ref rW, .int sl, .ref rC, .ref rF, .ref rQ, .ref rK, .ref rR, .ref rD])), (rM, .inl (E.2 1, 60, .inl (nA (updN Ti mk x))))] H := hP
    have hD : va_D A [(m0, .inr (9, [.int sh, .ref rO, .ref rU, .ref rT, .int rg, .ref rS, .ref rB, .ref rP, .ref rG, .long ab0, .long be0, .int (nI (mk + 1)), .ref rM, .int md, .ref rN, .ref rL, .ref rZ, .ref rE, .ref rI, .int hc, .ref rA, .ref rX, .int lnn, .ref rV, .ref rW, .int sl, .ref rC, .ref rF, .ref rQ, .ref rK, .ref rR, .ref rD])), (rM, .inl (E.2 1, 60, .inl (nA (updN Ti mk x))))] := hD
    refine lv_aload_n hx hb dX9_mark_68 rfl (lv_at hl 0 rfl) ?_
    refine va_get (D := E.1) (ci := 9) (v := .int (nI (mk + 1))) (C := RX9) (T := TX9) (N := 32) hx hb hts hinX9 hown hK hP 0 rfl rfl 11 (by decide) (hts (.fieldLink RX9 148 "WornRingsModel" "marks" "I") (by decide +kernel)) (fun _ h9 => h9) rfl dX9_mark_69 ?_
    have hP9 : va_P E.1 vwCl [(m0, .inr (9, [.int sh, .ref rO, .ref rU, .ref rT, .int rg, .ref rS, .ref rB, .ref rP, .ref rG, .long ab0, .long be0, .int (nI (mk + 1)), .ref rM, .int md, .ref rN, .ref rL, .ref rZ, .ref rE, .ref rI, .int hc, .ref rA, .ref rX, .int lnn, .ref rV, .ref rW, .int sl, .ref rC, .ref rF, .ref rQ, .ref rK, .ref rR, .ref rD])), (rM, .inl (E.2 1, 60, .inl (nA (updN Ti mk x))))] H := hP.sub [0, 1] rfl
    have hD9 : va_D A [(m0, .inr (9, [.int sh, .ref rO, .ref rU, .ref rT, .int rg, .ref rS, .ref rB, .ref rP, .ref rG, .long ab0, .long be0, .int (nI (mk + 1)), .ref rM, .int md, .ref rN, .ref rL, .ref rZ, .ref rE, .ref rI, .int hc, .ref rA, .ref rX, .int lnn, .ref rV, .ref rW, .int sl, .ref rC, .ref rF, .ref rQ, .ref rK, .ref rR, .ref rD])), (rM, .inl (E.2 1, 60, .inl (nA (updN Ti mk x))))] := hD.sub [0, 1] (by decide) rfl
    exact W.iret (v := nI (mk + 1)) hx hb hr (fun t9 ht9 hW9 => ⟨⟨nI (mk + 1), (), rfl, rfl, ⟨by rw [ht9]; exact hP9, hD9⟩⟩, hS.F ht9⟩) hS.2.2 dX9_mark_72
set_option maxHeartbeats 1000000 in
set_option maxRecDepth 100000 in
theorem c_X9_unmark (l : Launch) (E : EnvT) (sz : Nat) (m0 : Nat) (sh : Int32) (rO : Nat) (rU : Nat) (rT : Nat) (rg : Int32) (rS : Nat) (rB : Nat) (rP : Nat) (rG : Nat) (ab0 : Int64) (be0 : Int64) (mk : Nat) (rM : Nat) (md : Int32) (rN : Nat) (rL : Nat) (rZ : Nat) (rE : Nat) (rI : Nat) (hc : Int32) (rA : Nat) (rX : Nat) (lnn : Int32) (rV : Nat) (rW : Nat) (sl : Int32) (rC : Nat) (rF : Nat) (rQ : Nat) (rK : Nat) (rR : Nat) (rD : Nat)  : Met l yX9_unmark wsX9_unmark ({ frames := 0, cells := 0, slots := 0, locals := 0 }) (va_Pc [.ref m0] (PW E [(m0, .inr (9, [.int sh, .ref rO, .ref rU, .ref rT, .int rg, .ref rS, .ref rB, .ref rP, .ref rG, .long ab0, .long be0, .int (nI mk), .ref rM, .int md, .ref rN, .ref rL, .ref rZ, .ref rE, .ref rI, .int hc, .ref rA, .ref rX, .int lnn, .ref rV, .ref rW, .int sl, .ref rC, .ref rF, .ref rQ, .ref rK, .ref rR, .ref rD]))] sz)) (va_Qi (fun (r : Int32) (uu : Unit) => r = nI mk) (fun (uu : Unit) t => BW E (va_A [(m0, .inr (9, [.int sh, .ref rO, .ref rU, .ref rT, .int rg, .ref rS, .ref rB, .ref rP, .ref rG, .long ab0, .long be0, .int (nI mk), .ref rM, .int md, .ref rN, .ref rL, .ref rZ, .ref rE, .ref rI, .int hc, .ref rA, .ref rX, .int lnn, .ref rV, .ref rW, .int sl, .ref rC, .ref rF, .ref rQ, .ref rK, .ref rR, .ref rD]))] sz) [(m0, .inr (9, [.int sh, .ref rO, .ref rU, .ref rT, .int rg, .ref rS, .ref rB, .ref rP, .ref rG, .long ab0, .long be0, .int 0, .ref rM, .int md, .ref rN, .ref rL, .ref rZ, .ref rE, .ref rI, .int hc, .ref rA, .ref rX, .int lnn, .ref rV, .ref rW, .int sl, .ref rC, .ref rF, .ref rQ, .ref rK, .ref rR, .ref rD]))] t) (va_A [(m0, .inr (9, [.int sh, .ref rO, .ref rU, .ref rT, .int rg, .ref rS, .ref rB, .ref rP, .ref rG, .long ab0, .long be0, .int (nI mk), .ref rM, .int md, .ref rN, .ref rL, .ref rZ, .ref rE, .ref rI, .int hc, .ref rA, .ref rX, .int lnn, .ref rV, .ref rW, .int sl, .ref rC, .ref rF, .ref rQ, .ref rK, .ref rR, .ref rD]))] sz)) 0 0 (va_A [(m0, .inr (9, [.int sh, .ref rO, .ref rU, .ref rT, .int rg, .ref rS, .ref rB, .ref rP, .ref rG, .long ab0, .long be0, .int (nI mk), .ref rM, .int md, .ref rN, .ref rL, .ref rZ, .ref rE, .ref rI, .int hc, .ref rA, .ref rX, .int lnn, .ref rV, .ref rW, .int sl, .ref rC, .ref rF, .ref rQ, .ref rK, .ref rR, .ref rD]))] sz) := by
  refine Met.ofW (cc := cX9_unmark) (maxL := 2) (ret := (some .int)) (by decide +kernel) rfl ?_
  intro p e s m args below meth c s₁ B hml hv
  obtain ⟨rfl, hsz, hP, hE, hD0⟩ := hv
  have hx := B.exec
  have hb := B.bytes
  have hr := B.returns
  have hts := atoms_spec (ws := wsX9_unmark) B.pre
  have hown : s.vm.findClass RX9 = some m.cls := findClass_of_methodNamed B.named
  have hlocks := B.notSynchronized
  have hK := hE.1
  have hNN := hE.2.1
  have hinX9 : ∀ w ∈ wsX90, w ∈ wsX9_unmark := fun w h => List.mem_cons_of_mem _ (List.mem_append_right _ h)
  subst hsz
  have hD := hD0.self (sz := s.heap.size)
  generalize hAe : va_A [(m0, .inr (9, [.int sh, .ref rO, .ref rU, .ref rT, .int rg, .ref rS, .ref rB, .ref rP, .ref rG, .long ab0, .long be0, .int (nI mk), .ref rM, .int md, .ref rN, .ref rL, .ref rZ, .ref rE, .ref rI, .int hc, .ref rA, .ref rX, .int lnn, .ref rV, .ref rW, .int sl, .ref rC, .ref rF, .ref rQ, .ref rK, .ref rR, .ref rD]))] s.heap.size = A at hD ⊢
  have hA : ∀ q : Nat, s.heap.size ≤ q → A q := fun q h => by rw [← hAe]; exact Or.inr h
  have hS : va_S A s.heap s.heap [] := va_S.rf
  have hl := lv_entry ([.ref m0]) (n := 2) (Nat.le_of_ble_eq_true rfl)
  rw [lg_entry_eq]
  generalize (lg_sl ([.ref m0]) ++ List.replicate (2 - (lg_sl ([.ref m0])).length) Slot.unset).toArray = ls at hl ⊢
  have hl : lv_has ls 2 [(0, .ref m0)] := hl
  refine lv_aload_n hx hb dX9_unmark_0 rfl (lv_at hl 0 rfl) ?_
  refine va_get (D := E.1) (ci := 9) (v := .int (nI mk)) (C := RX9) (T := TX9) (N := 32) hx hb hts hinX9 hown hK hP 0 rfl rfl 11 (by decide) (hts (.fieldLink RX9 148 "WornRingsModel" "marks" "I") (by decide +kernel)) (fun _ h9 => h9) rfl dX9_unmark_1 ?_
  refine lv_istore_n (lv' := [(1, .int (nI mk)), (0, .ref m0)]) hx hb dX9_unmark_4 rfl hl (by decide) rfl (fun ls hl => ?_)
  refine lv_aload_n hx hb dX9_unmark_5 rfl (lv_at hl 1 rfl) ?_
  refine lv_iconst (v := 0) hx hb dX9_unmark_6 (by decide) ?_
  refine va_put (D := E.1) (ci := 9) (v := .int 0) (ty := .int) (C := RX9) (T := TX9) (N := 32) hx hb hts hinX9 tyX9 tyX9_ok nmX9 hown hK hP hD hS 0 rfl rfl 11 (by decide) (hts (.fieldLink RX9 148 "WornRingsModel" "marks" "I") (by decide +kernel)) (fun _ h9 => h9) rfl (by decide +kernel) (rfl) (rfl) (Nat.le_of_ble_eq_true rfl) dX9_unmark_7 (fun H locs hP hD hS => ?_)
  have hP : va_P E.1 vwCl [(m0, .inr (9, [.int sh, .ref rO, .ref rU, .ref rT, .int rg, .ref rS, .ref rB, .ref rP, .ref rG, .long ab0, .long be0, .int 0, .ref rM, .int md, .ref rN, .ref rL, .ref rZ, .ref rE, .ref rI, .int hc, .ref rA, .ref rX, .int lnn, .ref rV, .ref rW, .int sl, .ref rC, .ref rF, .ref rQ, .ref rK, .ref rR, .ref rD]))] H := hP
  have hD : va_D A [(m0, .inr (9, [.int sh, .ref rO, .ref rU, .ref rT, .int rg, .ref rS, .ref rB, .ref rP, .ref rG, .long ab0, .long be0, .int 0, .ref rM, .int md, .ref rN, .ref rL, .ref rZ, .ref rE, .ref rI, .int hc, .ref rA, .ref rX, .int lnn, .ref rV, .ref rW, .int sl, .ref rC, .ref rF, .ref rQ, .ref rK, .ref rR, .ref rD]))] := hD
  refine lv_iload_n hx hb dX9_unmark_10 rfl (lv_at hl 0 rfl) ?_
  have hP9 : va_P E.1 vwCl [(m0, .inr (9, [.int sh, .ref rO, .ref rU, .ref rT, .int rg, .ref rS, .ref rB, .ref rP, .ref rG, .long ab0, .long be0, .int 0, .ref rM, .int md, .ref rN, .ref rL, .ref rZ, .ref rE, .ref rI, .int hc, .ref rA, .ref rX, .int lnn, .ref rV, .ref rW, .int sl, .ref rC, .ref rF, .ref rQ, .ref rK, .ref rR, .ref rD]))] H := hP.sub [0] rfl
  have hD9 : va_D A [(m0, .inr (9, [.int sh, .ref rO, .ref rU, .ref rT, .int rg, .ref rS, .ref rB, .ref rP, .ref rG, .long ab0, .long be0, .int 0, .ref rM, .int md, .ref rN, .ref rL, .ref rZ, .ref rE, .ref rI, .int hc, .ref rA, .ref rX, .int lnn, .ref rV, .ref rW, .int sl, .ref rC, .ref rF, .ref rQ, .ref rK, .ref rR, .ref rD]))] := hD.sub [0] (by decide) rfl
  exact W.iret (v := nI mk) hx hb hr (fun t9 ht9 hW9 => ⟨⟨nI mk, (), rfl, rfl, ⟨by rw [ht9]; exact hP9, hD9⟩⟩, hS.F ht9⟩) hS.2.2 dX9_unmark_11
set_option maxHeartbeats 1000000 in
set_option maxRecDepth 100000 in
theorem c_X9_turns (l : Launch) (E : EnvT) (sz : Nat) (m0 : Nat) (sh : Int32) (rO : Nat) (rU : Nat) (rT : Nat) (rg : Int32) (rS : Nat) (rB : Nat) (rP : Nat) (rG : Nat) (ab0 : Int64) (be0 : Int64) (mk : Nat) (rM : Nat) (md : Int32) (rN : Nat) (rL : Nat) (rZ : Nat) (rE : Nat) (rI : Nat) (hc : Int32) (rA : Nat) (rX : Nat) (lnn : Int32) (rV : Nat) (rW : Nat) (sl : Int32) (rC : Nat) (rF : Nat) (rQ : Nat) (rK : Nat) (rR : Nat) (rD : Nat) (Ti : Nat → Nat) (Tn : Nat → Nat) (hmk : mk ≤ 60) (hti : ∀ j, j + 1 < mk → Ti j < Ti (j + 1)) (htb : ∀ j, j < mk → Ti j ≤ 1000000) : Met l yX9_turns wsX9_turns ({ frames := 2, cells := 0, slots := 0, locals := 51 }) (va_Pc [.ref m0] (PW E [(m0, .inr (9, [.int sh, .ref rO, .ref rU, .ref rT, .int rg, .ref rS, .ref rB, .ref rP, .ref rG, .long ab0, .long be0, .int (nI mk), .ref rM, .int md, .ref rN, .ref rL, .ref rZ, .ref rE, .ref rI, .int hc, .ref rA, .ref rX, .int lnn, .ref rV, .ref rW, .int sl, .ref rC, .ref rF, .ref rQ, .ref rK, .ref rR, .ref rD])), (rM, .inl (E.2 1, 60, .inl (nA Ti))), (rN, .inl (E.2 1, 120, .inl (nA Tn)))] sz)) (va_Qi (fun (r : Int32) (uu : (Nat → Nat)) => r = nI (adAll Ti mk).length ∧ (RLs uu (adAll Ti mk))) (fun (uu : (Nat → Nat)) t => BW E (va_A [(m0, .inr (9, [.int sh, .ref rO, .ref rU, .ref rT, .int rg, .ref rS, .ref rB, .ref rP, .ref rG, .long ab0, .long be0, .int (nI mk), .ref rM, .int md, .ref rN, .ref rL, .ref rZ, .ref rE, .ref rI, .int hc, .ref rA, .ref rX, .int lnn, .ref rV, .ref rW, .int sl, .ref rC, .ref rF, .ref rQ, .ref rK, .ref rR, .ref rD])), (rM, .inl (E.2 1, 60, .inl (nA Ti))), (rN, .inl (E.2 1, 120, .inl (nA Tn)))] sz) [(m0, .inr (9, [.int sh, .ref rO, .ref rU, .ref rT, .int rg, .ref rS, .ref rB, .ref rP, .ref rG, .long ab0, .long be0, .int (nI mk), .ref rM, .int (nI (adAll Ti mk).length), .ref rN, .ref rL, .ref rZ, .ref rE, .ref rI, .int hc, .ref rA, .ref rX, .int lnn, .ref rV, .ref rW, .int sl, .ref rC, .ref rF, .ref rQ, .ref rK, .ref rR, .ref rD])), (rM, .inl (E.2 1, 60, .inl (nA Ti))), (rN, .inl (E.2 1, 120, .inl (nA uu)))] t) (va_A [(m0, .inr (9, [.int sh, .ref rO, .ref rU, .ref rT, .int rg, .ref rS, .ref rB, .ref rP, .ref rG, .long ab0, .long be0, .int (nI mk), .ref rM, .int md, .ref rN, .ref rL, .ref rZ, .ref rE, .ref rI, .int hc, .ref rA, .ref rX, .int lnn, .ref rV, .ref rW, .int sl, .ref rC, .ref rF, .ref rQ, .ref rK, .ref rR, .ref rD])), (rM, .inl (E.2 1, 60, .inl (nA Ti))), (rN, .inl (E.2 1, 120, .inl (nA Tn)))] sz)) 0 0 (va_A [(m0, .inr (9, [.int sh, .ref rO, .ref rU, .ref rT, .int rg, .ref rS, .ref rB, .ref rP, .ref rG, .long ab0, .long be0, .int (nI mk), .ref rM, .int md, .ref rN, .ref rL, .ref rZ, .ref rE, .ref rI, .int hc, .ref rA, .ref rX, .int lnn, .ref rV, .ref rW, .int sl, .ref rC, .ref rF, .ref rQ, .ref rK, .ref rR, .ref rD])), (rM, .inl (E.2 1, 60, .inl (nA Ti))), (rN, .inl (E.2 1, 120, .inl (nA Tn)))] sz) := by
  refine Met.ofW (cc := cX9_turns) (maxL := 1) (ret := (some .int)) (by decide +kernel) rfl ?_
  intro p e s m args below meth c s₁ B hml hv
  obtain ⟨rfl, hsz, hP, hE, hD0⟩ := hv
  have hx := B.exec
  have hb := B.bytes
  have hr := B.returns
  have hts := atoms_spec (ws := wsX9_turns) B.pre
  have hown : s.vm.findClass RX9 = some m.cls := findClass_of_methodNamed B.named
  have hlocks := B.notSynchronized
  have hK := hE.1
  have hNN := hE.2.1
  have hinX9 : ∀ w ∈ wsX90, w ∈ wsX9_turns := fun w h => List.mem_cons_of_mem _ (List.mem_append_right _ h)
  subst hsz
  have hD := hD0.self (sz := s.heap.size)
  generalize hAe : va_A [(m0, .inr (9, [.int sh, .ref rO, .ref rU, .ref rT, .int rg, .ref rS, .ref rB, .ref rP, .ref rG, .long ab0, .long be0, .int (nI mk), .ref rM, .int md, .ref rN, .ref rL, .ref rZ, .ref rE, .ref rI, .int hc, .ref rA, .ref rX, .int lnn, .ref rV, .ref rW, .int sl, .ref rC, .ref rF, .ref rQ, .ref rK, .ref rR, .ref rD])), (rM, .inl (E.2 1, 60, .inl (nA Ti))), (rN, .inl (E.2 1, 120, .inl (nA Tn)))] s.heap.size = A at hD ⊢
  have hA : ∀ q : Nat, s.heap.size ≤ q → A q := fun q h => by rw [← hAe]; exact Or.inr h
  have hS : va_S A s.heap s.heap [] := va_S.rf
  have hl := lv_entry ([.ref m0]) (n := 1) (Nat.le_of_ble_eq_true rfl)
  rw [lg_entry_eq]
  generalize (lg_sl ([.ref m0]) ++ List.replicate (1 - (lg_sl ([.ref m0])).length) Slot.unset).toArray = ls at hl ⊢
  have hl : lv_has ls 1 [(0, .ref m0)] := hl
  refine lv_aload_n hx hb dX9_turns_0 rfl (lv_at hl 0 rfl) ?_
  refine wVv (wr := []) hE ⟨hx, hb, hml, hown, hts⟩ (c_X9_mend l E s.heap.size m0 sh rO rU rT rg rS rB rP rG ab0 be0 mk rM md rN rL rZ rE rI hc rA rX lnn rV rW sl rC rF rQ rK rR rD Ti Tn (hmk) (hti) (htb)) (cwV 0 hts gX9_turns_X9_mend rfl rfl rfl (by decide +kernel) ⟨Nat.le_of_ble_eq_true rfl, Nat.le_of_ble_eq_true rfl⟩) hP hD hS hA [0, 1, 2] [] rfl rfl (by decide) (by decide) (by decide) 0 9 rfl rfl rfl hl.1 rfl (Nat.le_of_ble_eq_true rfl) dX9_turns_1 ⟨(Nat.zero_le _), (Nat.zero_le _)⟩ (fun u H locs hw hP hD hS => ?_)
  obtain ⟨T2_1, rfl⟩ : ∃ z, z = u := ⟨_, rfl⟩
  have hP : va_P E.1 vwCl [(m0, .inr (9, [.int sh, .ref rO, .ref rU, .ref rT, .int rg, .ref rS, .ref rB, .ref rP, .ref rG, .long ab0, .long be0, .int (nI mk), .ref rM, .int (nI (adAll Ti mk).length), .ref rN, .ref rL, .ref rZ, .ref rE, .ref rI, .int hc, .ref rA, .ref rX, .int lnn, .ref rV, .ref rW, .int sl, .ref rC, .ref rF, .ref rQ, .ref rK, .ref rR, .ref rD])), (rM, .inl (E.2 1, 60, .inl (nA Ti))), (rN, .inl (E.2 1, 120, .inl (nA T2_1)))] H := hP
  have hD : va_D A [(m0, .inr (9, [.int sh, .ref rO, .ref rU, .ref rT, .int rg, .ref rS, .ref rB, .ref rP, .ref rG, .long ab0, .long be0, .int (nI mk), .ref rM, .int (nI (adAll Ti mk).length), .ref rN, .ref rL, .ref rZ, .ref rE, .ref rI, .int hc, .ref rA, .ref rX, .int lnn, .ref rV, .ref rW, .int sl, .ref rC, .ref rF, .ref rQ, .ref rK, .ref rR, .ref rD])), (rM, .inl (E.2 1, 60, .inl (nA Ti))), (rN, .inl (E.2 1, 120, .inl (nA T2_1)))] := hD
  have hm_1 := hw
  refine lv_aload_n hx hb dX9_turns_4 rfl (lv_at hl 0 rfl) ?_
  refine va_get (D := E.1) (ci := 9) (v := .int (nI (adAll Ti mk).length)) (C := RX9) (T := TX9) (N := 32) hx hb hts hinX9 hown hK hP 0 rfl rfl 13 (by decide) (hts (.fieldLink RX9 151 "WornRingsModel" "mended" "I") (by decide +kernel)) (fun _ h9 => h9) rfl dX9_turns_5 ?_
  have hP9 : va_P E.1 vwCl [(m0, .inr (9, [.int sh, .ref rO, .ref rU, .ref rT, .int rg, .ref rS, .ref rB, .ref rP, .ref rG, .long ab0, .long be0, .int (nI mk), .ref rM, .int (nI (adAll Ti mk).length), .ref rN, .ref rL, .ref rZ, .ref rE, .ref rI, .int hc, .ref rA, .ref rX, .int lnn, .ref rV, .ref rW, .int sl, .ref rC, .ref rF, .ref rQ, .ref rK, .ref rR, .ref rD])), (rM, .inl (E.2 1, 60, .inl (nA Ti))), (rN, .inl (E.2 1, 120, .inl (nA T2_1)))] H := hP.sub [0, 1, 2] rfl
  have hD9 : va_D A [(m0, .inr (9, [.int sh, .ref rO, .ref rU, .ref rT, .int rg, .ref rS, .ref rB, .ref rP, .ref rG, .long ab0, .long be0, .int (nI mk), .ref rM, .int (nI (adAll Ti mk).length), .ref rN, .ref rL, .ref rZ, .ref rE, .ref rI, .int hc, .ref rA, .ref rX, .int lnn, .ref rV, .ref rW, .int sl, .ref rC, .ref rF, .ref rQ, .ref rK, .ref rR, .ref rD])), (rM, .inl (E.2 1, 60, .inl (nA Ti))), (rN, .inl (E.2 1, 120, .inl (nA T2_1)))] := hD.sub [0, 1, 2] (by decide) rfl
  exact W.iret (v := nI (adAll Ti mk).length) hx hb hr (fun t9 ht9 hW9 => ⟨⟨nI (adAll Ti mk).length, (T2_1), rfl, ⟨rfl, hm_1⟩, ⟨by rw [ht9]; exact hP9, hD9⟩⟩, hS.F ht9⟩) hS.2.2 dX9_turns_8
set_option maxHeartbeats 1000000 in
set_option maxRecDepth 100000 in
theorem c_X9_turn (l : Launch) (E : EnvT) (sz : Nat) (m0 : Nat) (sh : Int32) (rO : Nat) (rU : Nat) (rT : Nat) (rg : Int32) (rS : Nat) (rB : Nat) (rP : Nat) (rG : Nat) (ab0 : Int64) (be0 : Int64) (mk : Nat) (rM : Nat) (md : Int32) (rN : Nat) (rL : Nat) (rZ : Nat) (rE : Nat) (rI : Nat) (hc : Int32) (rA : Nat) (rX : Nat) (lnn : Int32) (rV : Nat) (rW : Nat) (sl : Int32) (rC : Nat) (rF : Nat) (rQ : Nat) (rK : Nat) (rR : Nat) (rD : Nat) (Ti : Nat → Nat) (Tn : Nat → Nat) (iv : Int32) (hmk : mk ≤ 60) (hti : ∀ j, j + 1 < mk → Ti j < Ti (j + 1)) (htb : ∀ j, j < mk → Ti j ≤ 1000000) : Met l yX9_turn wsX9_turn ({ frames := 2, cells := 0, slots := 0, locals := 51 }) (va_Pc [.ref m0, .int iv] (PW E [(m0, .inr (9, [.int sh, .ref rO, .ref rU, .ref rT, .int rg, .ref rS, .ref rB, .ref rP, .ref rG, .long ab0, .long be0, .int (nI mk), .ref rM, .int md, .ref rN, .ref rL, .ref rZ, .ref rE, .ref rI, .int hc, .ref rA, .ref rX, .int lnn, .ref rV, .ref rW, .int sl, .ref rC, .ref rF, .ref rQ, .ref rK, .ref rR, .ref rD])), (rM, .inl (E.2 1, 60, .inl (nA Ti))), (rN, .inl (E.2 1, 120, .inl (nA Tn)))] sz)) (va_Qi (fun (r : Int32) (uu : (Nat → Nat)) => r = (if 0 ≤ iv ∧ iv ≤ nI (adAll Ti mk).length - 1 then nI ((adAll Ti mk).getD iv.toNatClampNeg 0) else -1) ∧ (RLs uu (adAll Ti mk))) (fun (uu : (Nat → Nat)) t => BW E (va_A [(m0, .inr (9, [.int sh, .ref rO, .ref rU, .ref rT, .int rg, .ref rS, .ref rB, .ref rP, .ref rG, .long ab0, .long be0, .int (nI mk), .ref rM, .int md, .ref rN, .ref rL, .ref rZ, .ref rE, .ref rI, .int hc, .ref rA, .ref rX, .int lnn, .ref rV, .ref rW, .int sl, .ref rC, .ref rF, .ref rQ, .ref rK, .ref rR, .ref rD])), (rM, .inl (E.2 1, 60, .inl (nA Ti))), (rN, .inl (E.2 1, 120, .inl (nA Tn)))] sz) [(m0, .inr (9, [.int sh, .ref rO, .ref rU, .ref rT, .int rg, .ref rS, .ref rB, .ref rP, .ref rG, .long ab0, .long be0, .int (nI mk), .ref rM, .int (nI (adAll Ti mk).length), .ref rN, .ref rL, .ref rZ, .ref rE, .ref rI, .int hc, .ref rA, .ref rX, .int lnn, .ref rV, .ref rW, .int sl, .ref rC, .ref rF, .ref rQ, .ref rK, .ref rR, .ref rD])), (rM, .inl (E.2 1, 60, .inl (nA Ti))), (rN, .inl (E.2 1, 120, .inl (nA uu)))] t) (va_A [(m0, .inr (9, [.int sh, .ref rO, .ref rU, .ref rT, .int rg, .ref rS, .ref rB, .ref rP, .ref rG, .long ab0, .long be0, .int (nI mk), .ref rM, .int md, .ref rN, .ref rL, .ref rZ, .ref rE, .ref rI, .int hc, .ref rA, .ref rX, .int lnn, .ref rV, .ref rW, .int sl, .ref rC, .ref rF, .ref rQ, .ref rK, .ref rR, .ref rD])), (rM, .inl (E.2 1, 60, .inl (nA Ti))), (rN, .inl (E.2 1, 120, .inl (nA Tn)))] sz)) 0 0 (va_A [(m0, .inr (9, [.int sh, .ref rO, .ref rU, .ref rT, .int rg, .ref rS, .ref rB, .ref rP, .ref rG, .long ab0, .long be0, .int (nI mk), .ref rM, .int md, .ref rN, .ref rL, .ref rZ, .ref rE, .ref rI, .int hc, .ref rA, .ref rX, .int lnn, .ref rV, .ref rW, .int sl, .ref rC, .ref rF, .ref rQ, .ref rK, .ref rR, .ref rD])), (rM, .inl (E.2 1, 60, .inl (nA Ti))), (rN, .inl (E.2 1, 120, .inl (nA Tn)))] sz) := by
  refine Met.ofW (cc := cX9_turn) (maxL := 2) (ret := (some .int)) (by decide +kernel) rfl ?_
  intro p e s m args below meth c s₁ B hml hv
  obtain ⟨rfl, hsz, hP, hE, hD0⟩ := hv
  have hx := B.exec
  have hb := B.bytes
  have hr := B.returns
  have hts := atoms_spec (ws := wsX9_turn) B.pre
  have hown : s.vm.findClass RX9 = some m.cls := findClass_of_methodNamed B.named
  have hlocks := B.notSynchronized
  have hK := hE.1
  have hNN := hE.2.1
  have hinX9 : ∀ w ∈ wsX90, w ∈ wsX9_turn := fun w h => List.mem_cons_of_mem _ (List.mem_append_right _ h)
  subst hsz
  have hD := hD0.self (sz := s.heap.size)
  generalize hAe : va_A [(m0, .inr (9, [.int sh, .ref rO, .ref rU, .ref rT, .int rg, .ref rS, .ref rB, .ref rP, .ref rG, .long ab0, .long be0, .int (nI mk), .ref rM, .int md, .ref rN, .ref rL, .ref rZ, .ref rE, .ref rI, .int hc, .ref rA, .ref rX, .int lnn, .ref rV, .ref rW, .int sl, .ref rC, .ref rF, .ref rQ, .ref rK, .ref rR, .ref rD])), (rM, .inl (E.2 1, 60, .inl (nA Ti))), (rN, .inl (E.2 1, 120, .inl (nA Tn)))] s.heap.size = A at hD ⊢
  have hA : ∀ q : Nat, s.heap.size ≤ q → A q := fun q h => by rw [← hAe]; exact Or.inr h
  have hS : va_S A s.heap s.heap [] := va_S.rf
  have hl := lv_entry ([.ref m0, .int iv]) (n := 2) (Nat.le_of_ble_eq_true rfl)
  rw [lg_entry_eq]
  generalize (lg_sl ([.ref m0, .int iv]) ++ List.replicate (2 - (lg_sl ([.ref m0, .int iv])).length) Slot.unset).toArray = ls at hl ⊢
  have hl : lv_has ls 2 [(0, .ref m0), (1, .int iv)] := hl
  have hal := (adAll_inv (Ti := Ti) mk hti).2.1
  refine lv_aload_n hx hb dX9_turn_0 rfl (lv_at hl 0 rfl) ?_
  refine wVv (wr := []) hE ⟨hx, hb, hml, hown, hts⟩ (c_X9_mend l E s.heap.size m0 sh rO rU rT rg rS rB rP rG ab0 be0 mk rM md rN rL rZ rE rI hc rA rX lnn rV rW sl rC rF rQ rK rR rD Ti Tn (hmk) (hti) (htb)) (cwV 0 hts gX9_turn_X9_mend rfl rfl rfl (by decide +kernel) ⟨Nat.le_of_ble_eq_true rfl, Nat.le_of_ble_eq_true rfl⟩) hP hD hS hA [0, 1, 2] [] rfl rfl (by decide) (by decide) (by decide) 0 9 rfl rfl rfl hl.1 rfl (Nat.le_of_ble_eq_true rfl) dX9_turn_1 ⟨(Nat.zero_le _), (Nat.zero_le _)⟩ (fun u H locs hw hP hD hS => ?_)
  obtain ⟨T2_1, rfl⟩ : ∃ z, z = u := ⟨_, rfl⟩
  have hP : va_P E.1 vwCl [(m0, .inr (9, [.int sh, .ref rO, .ref rU, .ref rT, .int rg, .ref rS, .ref rB, .ref rP, .ref rG, .long ab0, .long be0, .int (nI mk), .ref rM, .int (nI (adAll Ti mk).length), .ref rN, .ref rL, .ref rZ, .ref rE, .ref rI, .int hc, .ref rA, .ref rX, .int lnn, .ref rV, .ref rW, .int sl, .ref rC, .ref rF, .ref rQ, .ref rK, .ref rR, .ref rD])), (rM, .inl (E.2 1, 60, .inl (nA Ti))), (rN, .inl (E.2 1, 120, .inl (nA T2_1)))] H := hP
  have hD : va_D A [(m0, .inr (9, [.int sh, .ref rO, .ref rU, .ref rT, .int rg, .ref rS, .ref rB, .ref rP, .ref rG, .long ab0, .long be0, .int (nI mk), .ref rM, .int (nI (adAll Ti mk).length), .ref rN, .ref rL, .ref rZ, .ref rE, .ref rI, .int hc, .ref rA, .ref rX, .int lnn, .ref rV, .ref rW, .int sl, .ref rC, .ref rF, .ref rQ, .ref rK, .ref rR, .ref rD])), (rM, .inl (E.2 1, 60, .inl (nA Ti))), (rN, .inl (E.2 1, 120, .inl (nA T2_1)))] := hD
  have hm_1 := hw
  refine lv_iload_n hx hb dX9_turn_4 rfl (lv_at hl 1 rfl) ?_
  refine lv_i2l (v := iv.toInt64) hx hb dX9_turn_5 (rfl) ?_
  refine lv_lconst (v := 0) hx hb dX9_turn_6 (by decide) ?_
  refine lv_aload_n hx hb dX9_turn_7 rfl (lv_at hl 0 rfl) ?_
  refine va_get (D := E.1) (ci := 9) (v := .int (nI (adAll Ti mk).length)) (C := RX9) (T := TX9) (N := 32) hx hb hts hinX9 hown hK hP 0 rfl rfl 13 (by decide) (hts (.fieldLink RX9 151 "WornRingsModel" "mended" "I") (by decide +kernel)) (fun _ h9 => h9) rfl dX9_turn_8 ?_
  refine lv_iconst (v := 1) hx hb dX9_turn_11 (by decide) ?_
  refine lv_isub hx hb dX9_turn_12 ?_
  refine lv_i2l (v := ((nI (adAll Ti mk).length) - 1).toInt64) hx hb dX9_turn_13 (rfl) ?_
  refine rSi hE ⟨hx, hb, hml, hown, hts⟩ (c_X9_in l E iv.toInt64 0 (((nI (adAll Ti mk).length) - 1).toInt64) ) (va_cwS 3 hts gX9_turn_X9_in rfl rfl rfl (by decide +kernel) ⟨Nat.le_of_ble_eq_true rfl, Nat.le_of_ble_eq_true rfl⟩) (hP.sub [] rfl) rfl hl.1 rfl (Nat.le_of_ble_eq_true rfl) dX9_turn_14 ⟨(Nat.zero_le _), (Nat.zero_le _)⟩ ?_
  rw [show fIn iv.toInt64 0 (((nI (adAll Ti mk).length) - 1).toInt64) = fWi iv 0 ((nI (adAll Ti mk).length) - 1) from fIn_c (rfl) (by decide) (rfl)]
  refine lv_if_eq (tgt := 29) hx hb dX9_turn_17 (by decide) (fun c_17 => ?_) (fun c_17 => ?_)
  · have c_17 := fWi_0 c_17
    refine lv_iconst (v := (-1)) hx hb dX9_turn_29 (by decide) ?_
    have hP9 : va_P E.1 vwCl [(m0, .inr (9, [.int sh, .ref rO, .ref rU, .ref rT, .int rg, .ref rS, .ref rB, .ref rP, .ref rG, .long ab0, .long be0, .int (nI mk), .ref rM, .int (nI (adAll Ti mk).length), .ref rN, .ref rL, .ref rZ, .ref rE, .ref rI, .int hc, .ref rA, .ref rX, .int lnn, .ref rV, .ref rW, .int sl, .ref rC, .ref rF, .ref rQ, .ref rK, .ref rR, .ref rD])), (rM, .inl (E.2 1, 60, .inl (nA Ti))), (rN, .inl (E.2 1, 120, .inl (nA T2_1)))] H := hP.sub [0, 1, 2] rfl
    have hD9 : va_D A [(m0, .inr (9, [.int sh, .ref rO, .ref rU, .ref rT, .int rg, .ref rS, .ref rB, .ref rP, .ref rG, .long ab0, .long be0, .int (nI mk), .ref rM, .int (nI (adAll Ti mk).length), .ref rN, .ref rL, .ref rZ, .ref rE, .ref rI, .int hc, .ref rA, .ref rX, .int lnn, .ref rV, .ref rW, .int sl, .ref rC, .ref rF, .ref rQ, .ref rK, .ref rR, .ref rD])), (rM, .inl (E.2 1, 60, .inl (nA Ti))), (rN, .inl (E.2 1, 120, .inl (nA T2_1)))] := hD.sub [0, 1, 2] (by decide) rfl
    exact W.iret (v := (-1)) hx hb hr (fun t9 ht9 hW9 => ⟨⟨(-1), (T2_1), rfl, ⟨by first | (rw [if_pos c_17, ← hm_1 j hj9]; done) | exact (if_neg c_17).symm, hm_1⟩, ⟨by rw [ht9]; exact hP9, hD9⟩⟩, hS.F ht9⟩) hS.2.2 dX9_turn_30
  · have c_17 := fWi_1 c_17
    obtain ⟨j, hj9, rfl⟩ := ix_of (by omega) c_17.1 c_17.2
    refine lv_aload_n hx hb dX9_turn_20 rfl (lv_at hl 0 rfl) ?_
    refine va_get (D := E.1) (ci := 9) (v := .ref rN) (C := RX9) (T := TX9) (N := 32) hx hb hts hinX9 hown hK hP 0 rfl rfl 14 (by decide) (hts (.fieldLink RX9 39 "WornRingsModel" "turns" "[I") (by decide +kernel)) (fun _ h9 => h9) rfl dX9_turn_21 ?_
    refine lv_iload_n hx hb dX9_turn_24 rfl (lv_at hl 1 rfl) ?_
    refine va_iald hx hb hK hP 2 1 rfl rfl (vp_in_nI (by omega) (by omega)) dX9_turn_25 ?_
    rw [nI_clamp (n := j) (by omega)]
    refine W.eq (g2 := F0 m 26 ls [.int (nI (T2_1 j))]) rfl ?_
    refine lv_goto (tgt := 30) hx hb dX9_turn_26 (by decide) ?_
    have hP9 : va_P E.1 vwCl [(m0, .inr (9, [.int sh, .ref rO, .ref rU, .ref rT, .int rg, .ref rS, .ref rB, .ref rP, .ref rG, .long ab0, .long be0, .int (nI mk), .ref rM, .int (nI (adAll Ti mk).length), .ref rN, .ref rL, .ref rZ, .ref rE, .ref rI, .int hc, .ref rA, .ref rX, .int lnn, .ref rV, .ref rW, .int sl, .ref rC, .ref rF, .ref rQ, .ref rK, .ref rR, .ref rD])), (rM, .inl (E.2 1, 60, .inl (nA Ti))), (rN, .inl (E.2 1, 120, .inl (nA T2_1)))] H := hP.sub [0, 1, 2] rfl
    have hD9 : va_D A [(m0, .inr (9, [.int sh, .ref rO, .ref rU, .ref rT, .int rg, .ref rS, .ref rB, .ref rP, .ref rG, .long ab0, .long be0, .int (nI mk), .ref rM, .int (nI (adAll Ti mk).length), .ref rN, .ref rL, .ref rZ, .ref rE, .ref rI, .int hc, .ref rA, .ref rX, .int lnn, .ref rV, .ref rW, .int sl, .ref rC, .ref rF, .ref rQ, .ref rK, .ref rR, .ref rD])), (rM, .inl (E.2 1, 60, .inl (nA Ti))), (rN, .inl (E.2 1, 120, .inl (nA T2_1)))] := hD.sub [0, 1, 2] (by decide) rfl
    exact W.iret (v := nI (T2_1 j)) hx hb hr (fun t9 ht9 hW9 => ⟨⟨nI (T2_1 j), (T2_1), rfl, ⟨by first | (rw [if_pos c_17, ← hm_1 j hj9]; done) | exact (if_neg c_17).symm, hm_1⟩, ⟨by rw [ht9]; exact hP9, hD9⟩⟩, hS.F ht9⟩) hS.2.2 dX9_turn_30
set_option maxHeartbeats 1000000 in
set_option maxRecDepth 100000 in
theorem c_X9_line_no (l : Launch) (E : EnvT) (sz : Nat) (m0 : Nat) (sh : Int32) (rO : Nat) (rU : Nat) (rT : Nat) (rg : Int32) (rS : Nat) (rB : Nat) (rP : Nat) (rG : Nat) (ab0 : Int64) (be0 : Int64) (mk : Int32) (rM : Nat) (md : Int32) (rN : Nat) (rL : Nat) (rZ : Nat) (rE : Nat) (rI : Nat) (hc : Int32) (rA : Nat) (rX : Nat) (n : Nat) (rV : Nat) (rW : Nat) (sl : Int32) (rC : Nat) (rF : Nat) (rQ : Nat) (rK : Nat) (rR : Nat) (rD : Nat) (up : Int32) (dn : Int32) (hn : n ≤ 12) (hno : ¬ ((1 ≤ up ∧ up ≤ 10000) ∧ (1 ≤ dn ∧ dn ≤ 10000)) ∨ 12 ≤ n) : Met l yX9_line wsX9_line ({ frames := 1, cells := 0, slots := 0, locals := 25 }) (va_Pc [.ref m0, .int up, .int dn] (PW E [(m0, .inr (9, [.int sh, .ref rO, .ref rU, .ref rT, .int rg, .ref rS, .ref rB, .ref rP, .ref rG, .long ab0, .long be0, .int mk, .ref rM, .int md, .ref rN, .ref rL, .ref rZ, .ref rE, .ref rI, .int hc, .ref rA, .ref rX, .int (nI n), .ref rV, .ref rW, .int sl, .ref rC, .ref rF, .ref rQ, .ref rK, .ref rR, .ref rD]))] sz)) (va_Qi (fun (r : Int32) (uu : Unit) => r = if (1 ≤ up ∧ up ≤ 10000) ∧ (1 ≤ dn ∧ dn ≤ 10000) then -3 else -1) (fun (uu : Unit) t => BW E (va_A [(m0, .inr (9, [.int sh, .ref rO, .ref rU, .ref rT, .int rg, .ref rS, .ref rB, .ref rP, .ref rG, .long ab0, .long be0, .int mk, .ref rM, .int md, .ref rN, .ref rL, .ref rZ, .ref rE, .ref rI, .int hc, .ref rA, .ref rX, .int (nI n), .ref rV, .ref rW, .int sl, .ref rC, .ref rF, .ref rQ, .ref rK, .ref rR, .ref rD]))] sz) [(m0, .inr (9, [.int sh, .ref rO, .ref rU, .ref rT, .int rg, .ref rS, .ref rB, .ref rP, .ref rG, .long ab0, .long be0, .int mk, .ref rM, .int md, .ref rN, .ref rL, .ref rZ, .ref rE, .ref rI, .int hc, .ref rA, .ref rX, .int (nI n), .ref rV, .ref rW, .int sl, .ref rC, .ref rF, .ref rQ, .ref rK, .ref rR, .ref rD]))] t) (va_A [(m0, .inr (9, [.int sh, .ref rO, .ref rU, .ref rT, .int rg, .ref rS, .ref rB, .ref rP, .ref rG, .long ab0, .long be0, .int mk, .ref rM, .int md, .ref rN, .ref rL, .ref rZ, .ref rE, .ref rI, .int hc, .ref rA, .ref rX, .int (nI n), .ref rV, .ref rW, .int sl, .ref rC, .ref rF, .ref rQ, .ref rK, .ref rR, .ref rD]))] sz)) 0 0 (va_A [(m0, .inr (9, [.int sh, .ref rO, .ref rU, .ref rT, .int rg, .ref rS, .ref rB, .ref rP, .ref rG, .long ab0, .long be0, .int mk, .ref rM, .int md, .ref rN, .ref rL, .ref rZ, .ref rE, .ref rI, .int hc, .ref rA, .ref rX, .int (nI n), .ref rV, .ref rW, .int sl, .ref rC, .ref rF, .ref rQ, .ref rK, .ref rR, .ref rD]))] sz) := by
  refine Met.ofW (cc := cX9_line) (maxL := 3) (ret := (some .int)) (by decide +kernel) rfl ?_
  intro p e s m args below meth c s₁ B hml hv
  obtain ⟨rfl, hsz, hP, hE, hD0⟩ := hv
  have hx := B.exec
  have hb := B.bytes
  have hr := B.returns
  have hts := atoms_spec (ws := wsX9_line) B.pre
  have hown : s.vm.findClass RX9 = some m.cls := findClass_of_methodNamed B.named
  have hlocks := B.notSynchronized
  have hK := hE.1
  have hNN := hE.2.1
  have hinX9 : ∀ w ∈ wsX90, w ∈ wsX9_line := fun w h => List.mem_cons_of_mem _ (List.mem_append_right _ h)
  subst hsz
  have hD := hD0.self (sz := s.heap.size)
  generalize hAe : va_A [(m0, .inr (9, [.int sh, .ref rO, .ref rU, .ref rT, .int rg, .ref rS, .ref rB, .ref rP, .ref rG, .long ab0, .long be0, .int mk, .ref rM, .int md, .ref rN, .ref rL, .ref rZ, .ref rE, .ref rI, .int hc, .ref rA, .ref rX, .int (nI n), .ref rV, .ref rW, .int sl, .ref rC, .ref rF, .ref rQ, .ref rK, .ref rR, .ref rD]))] s.heap.size = A at hD ⊢
  have hA : ∀ q : Nat, s.heap.size ≤ q → A q := fun q h => by rw [← hAe]; exact Or.inr h
  have hS : va_S A s.heap s.heap [] := va_S.rf
  have hl := lv_entry ([.ref m0, .int up, .int dn]) (n := 3) (Nat.le_of_ble_eq_true rfl)
  rw [lg_entry_eq]
  generalize (lg_sl ([.ref m0, .int up, .int dn]) ++ List.replicate (3 - (lg_sl ([.ref m0, .int up, .int dn])).length) Slot.unset).toArray = ls at hl ⊢
  have hl : lv_has ls 3 [(0, .ref m0), (1, .int up), (2, .int dn)] := hl
  refine lv_iload_n hx hb dX9_line_0 rfl (lv_at hl 1 rfl) ?_
  refine lv_i2l (v := up.toInt64) hx hb dX9_line_1 (rfl) ?_
  refine lv_lconst (v := 1) hx hb dX9_line_2 (by decide) ?_
  refine lv_ldc2 (v := 10000) hx hb hown (hts (.constantLong RX9 198 (10000)) (by decide +kernel)) dX9_line_3 ?_
  refine rSi hE ⟨hx, hb, hml, hown, hts⟩ (c_X9_in l E up.toInt64 1 10000 ) (va_cwS 3 hts gX9_line_X9_in rfl rfl rfl (by decide +kernel) ⟨Nat.le_of_ble_eq_true rfl, Nat.le_of_ble_eq_true rfl⟩) (hP.sub [] rfl) rfl hl.1 rfl (Nat.le_of_ble_eq_true rfl) dX9_line_6 ⟨(Nat.zero_le _), (Nat.zero_le _)⟩ ?_
  rw [show fIn up.toInt64 1 10000 = fWi up 1 10000 from fIn_c (rfl) (by decide) (by decide)]
  refine lv_if_eq (tgt := 24) hx hb dX9_line_9 (by decide) (fun c_9 => ?_) (fun c_9 => ?_)
  · have c_9 := fWi_0 c_9
    refine lv_iconst (v := (-1)) hx hb dX9_line_24 (by decide) ?_
    have hP9 : va_P E.1 vwCl [(m0, .inr (9, [.int sh, .ref rO, .ref rU, .ref rT, .int rg, .ref rS, .ref rB, .ref rP, .ref rG, .long ab0, .long be0, .int mk, .ref rM, .int md, .ref rN, .ref rL, .ref rZ, .ref rE, .ref rI, .int hc, .ref rA, .ref rX, .int (nI n), .ref rV, .ref rW, .int sl, .ref rC, .ref rF, .ref rQ, .ref rK, .ref rR, .ref rD]))] s.heap := hP.sub [0] rfl
    have hD9 : va_D A [(m0, .inr (9, [.int sh, .ref rO, .ref rU, .ref rT, .int rg, .ref rS, .ref rB, .ref rP, .ref rG, .long ab0, .long be0, .int mk, .ref rM, .int md, .ref rN, .ref rL, .ref rZ, .ref rE, .ref rI, .int hc, .ref rA, .ref rX, .int (nI n), .ref rV, .ref rW, .int sl, .ref rC, .ref rF, .ref rQ, .ref rK, .ref rR, .ref rD]))] := hD.sub [0] (by decide) rfl
    exact W.iret (v := (-1)) hx hb hr (fun t9 ht9 hW9 => ⟨⟨(-1), (), rfl, by first | exact (if_neg (fun h9 => c_9 h9.1)).symm | exact (if_neg (fun h9 => c_21 h9.2)).symm, ⟨by rw [ht9]; exact hP9, hD9⟩⟩, hS.F ht9⟩) hS.2.2 dX9_line_25
  · have c_9 := fWi_1 c_9
    refine lv_iload_n hx hb dX9_line_12 rfl (lv_at hl 2 rfl) ?_
    refine lv_i2l (v := dn.toInt64) hx hb dX9_line_13 (rfl) ?_
    refine lv_lconst (v := 1) hx hb dX9_line_14 (by decide) ?_
    refine lv_ldc2 (v := 10000) hx hb hown (hts (.constantLong RX9 198 (10000)) (by decide +kernel)) dX9_line_15 ?_
    refine rSi hE ⟨hx, hb, hml, hown, hts⟩ (c_X9_in l E dn.toInt64 1 10000 ) (va_cwS 3 hts gX9_line_X9_in rfl rfl rfl (by decide +kernel) ⟨Nat.le_of_ble_eq_true rfl, Nat.le_of_ble_eq_true rfl⟩) (hP.sub [] rfl) rfl hl.1 rfl (Nat.le_of_ble_eq_true rfl) dX9_line_18 ⟨(Nat.zero_le _), (Nat.zero_le _)⟩ ?_
    rw [show fIn dn.toInt64 1 10000 = fWi dn 1 10000 from fIn_c (rfl) (by decide) (by decide)]
    refine lv_if_ne (tgt := 26) hx hb dX9_line_21 (by decide) (fun c_21 => ?_) (fun c_21 => ?_)
    · have c_21 := fWi_1 c_21
      refine lv_aload_n hx hb dX9_line_26 rfl (lv_at hl 0 rfl) ?_
      refine va_get (D := E.1) (ci := 9) (v := .int (nI n)) (C := RX9) (T := TX9) (N := 32) hx hb hts hinX9 hown hK hP 0 rfl rfl 22 (by decide) (hts (.fieldLink RX9 200 "WornRingsModel" "lines" "I") (by decide +kernel)) (fun _ h9 => h9) rfl dX9_line_27 ?_
      refine lv_bipush (v := 12) hx hb dX9_line_30 (by decide) ?_
      refine lv_icmp_ne (tgt := 38) hx hb dX9_line_32 (by decide) (fun c_32 => by exfalso; have c_32 : ¬ n = 12 := fun h9 => c_32 ((nI_eq (a := n) (b := 12) (by omega) (by omega)).mpr h9); exact hno.elim (fun h9 => h9 ⟨c_9, c_21⟩) (fun h9 => by omega)) (fun c_32 => ?_)
      have c_32 : n = 12 := (nI_eq (a := n) (b := 12) (by omega) (by omega)).mp c_32
      refine lv_bipush (v := (-3)) hx hb dX9_line_35 (by decide) ?_
      have hP9 : va_P E.1 vwCl [(m0, .inr (9, [.int sh, .ref rO, .ref rU, .ref rT, .int rg, .ref rS, .ref rB, .ref rP, .ref rG, .long ab0, .long be0, .int mk, .ref rM, .int md, .ref rN, .ref rL, .ref rZ, .ref rE, .ref rI, .int hc, .ref rA, .ref rX, .int (nI n), .ref rV, .ref rW, .int sl, .ref rC, .ref rF, .ref rQ, .ref rK, .ref rR, .ref rD]))] s.heap := hP.sub [0] rfl
      have hD9 : va_D A [(m0, .inr (9, [.int sh, .ref rO, .ref rU, .ref rT, .int rg, .ref rS, .ref rB, .ref rP, .ref rG, .long ab0, .long be0, .int mk, .ref rM, .int md, .ref rN, .ref rL, .ref rZ, .ref rE, .ref rI, .int hc, .ref rA, .ref rX, .int (nI n), .ref rV, .ref rW, .int sl, .ref rC, .ref rF, .ref rQ, .ref rK, .ref rR, .ref rD]))] := hD.sub [0] (by decide) rfl
      exact W.iret (v := (-3)) hx hb hr (fun t9 ht9 hW9 => ⟨⟨(-3), (), rfl, (if_pos ⟨c_9, c_21⟩).symm, ⟨by rw [ht9]; exact hP9, hD9⟩⟩, hS.F ht9⟩) hS.2.2 dX9_line_37
    · have c_21 := fWi_0 c_21
      refine lv_iconst (v := (-1)) hx hb dX9_line_24 (by decide) ?_
      have hP9 : va_P E.1 vwCl [(m0, .inr (9, [.int sh, .ref rO, .ref rU, .ref rT, .int rg, .ref rS, .ref rB, .ref rP, .ref rG, .long ab0, .long be0, .int mk, .ref rM, .int md, .ref rN, .ref rL, .ref rZ, .ref rE, .ref rI, .int hc, .ref rA, .ref rX, .int (nI n), .ref rV, .ref rW, .int sl, .ref rC, .ref rF, .ref rQ, .ref rK, .ref rR, .ref rD]))] s.heap := hP.sub [0] rfl
      have hD9 : va_D A [(m0, .inr (9, [.int sh, .ref rO, .ref rU, .ref rT, .int rg, .ref rS, .ref rB, .ref rP, .ref rG, .long ab0, .long be0, .int mk, .ref rM, .int md, .ref rN, .ref rL, .ref rZ, .ref rE, .ref rI, .int hc, .ref rA, .ref rX, .int (nI n), .ref rV, .ref rW, .int sl, .ref rC, .ref rF, .ref rQ, .ref rK, .ref rR, .ref rD]))] := hD.sub [0] (by decide) rfl
      exact W.iret (v := (-1)) hx hb hr (fun t9 ht9 hW9 => ⟨⟨(-1), (), rfl, by first | exact (if_neg (fun h9 => c_9 h9.1)).symm | exact (if_neg (fun h9 => c_21 h9.2)).symm, ⟨by rw [ht9]; exact hP9, hD9⟩⟩, hS.F ht9⟩) hS.2.2 dX9_line_25
set_option maxHeartbeats 1000000 in
set_option maxRecDepth 100000 in
theorem c_X9_line_yes (l : Launch) (E : EnvT) (sz : Nat) (m0 : Nat) (sh : Int32) (rO : Nat) (rU : Nat) (rT : Nat) (rg : Int32) (rS : Nat) (rB : Nat) (rP : Nat) (rG : Nat) (ab0 : Int64) (be0 : Int64) (mk : Int32) (rM : Nat) (md : Int32) (rN : Nat) (rL : Nat) (rZ : Nat) (rE : Nat) (rI : Nat) (hc : Int32) (rA : Nat) (rX : Nat) (n : Nat) (rV : Nat) (rW : Nat) (sl : Int32) (rC : Nat) (rF : Nat) (rQ : Nat) (rK : Nat) (rR : Nat) (rD : Nat) (To : Nat → Int32) (Bo : Nat → Int32) (up : Int32) (dn : Int32) (hn : n < 12) (hy : (1 ≤ up ∧ up ≤ 10000) ∧ (1 ≤ dn ∧ dn ≤ 10000)) : Met l yX9_line wsX9_line ({ frames := 1, cells := 0, slots := 0, locals := 25 }) (va_Pc [.ref m0, .int up, .int dn] (PW E [(m0, .inr (9, [.int sh, .ref rO, .ref rU, .ref rT, .int rg, .ref rS, .ref rB, .ref rP, .ref rG, .long ab0, .long be0, .int mk, .ref rM, .int md, .ref rN, .ref rL, .ref rZ, .ref rE, .ref rI, .int hc, .ref rA, .ref rX, .int (nI n), .ref rV, .ref rW, .int sl, .ref rC, .ref rF, .ref rQ, .ref rK, .ref rR, .ref rD])), (rV, .inl (E.2 1, 12, .inl To)), (rW, .inl (E.2 1, 12, .inl Bo))] sz)) (va_Qi (fun (r : Int32) (uu : Unit) => r = nI n) (fun (uu : Unit) t => BW E (va_A [(m0, .inr (9, [.int sh, .ref rO, .ref rU, .ref rT, .int rg, .ref rS, .ref rB, .ref rP, .ref rG, .long ab0, .long be0, .int mk, .ref rM, .int md, .ref rN, .ref rL, .ref rZ, .ref rE, .ref rI, .int hc, .ref rA, .ref rX, .int (nI n), .ref rV, .ref rW, .int sl, .ref rC, .ref rF, .ref rQ, .ref rK, .ref rR, .ref rD])), (rV, .inl (E.2 1, 12, .inl To)), (rW, .inl (E.2 1, 12, .inl Bo))] sz) [(m0, .inr (9, [.int sh, .ref rO, .ref rU, .ref rT, .int rg, .ref rS, .ref rB, .ref rP, .ref rG, .long ab0, .long be0, .int mk, .ref rM, .int md, .ref rN, .ref rL, .ref rZ, .ref rE, .ref rI, .int hc, .ref rA, .ref rX, .int (nI (n + 1)), .ref rV, .ref rW, .int sl, .ref rC, .ref rF, .ref rQ, .ref rK, .ref rR, .ref rD])), (rV, .inl (E.2 1, 12, .inl (upd To n up))), (rW, .inl (E.2 1, 12, .inl (upd Bo n dn)))] t) (va_A [(m0, .inr (9, [.int sh, .ref rO, .ref rU, .ref rT, .int rg, .ref rS, .ref rB, .ref rP, .ref rG, .long ab0, .long be0, .int mk, .ref rM, .int md, .ref rN, .ref rL, .ref rZ, .ref rE, .ref rI, .int hc, .ref rA, .ref rX, .int (nI n), .ref rV, .ref rW, .int sl, .ref rC, .ref rF, .ref rQ, .ref rK, .ref rR, .ref rD])), (rV, .inl (E.2 1, 12, .inl To)), (rW, .inl (E.2 1, 12, .inl Bo))] sz)) 0 0 (va_A [(m0, .inr (9, [.int sh, .ref rO, .ref rU, .ref rT, .int rg, .ref rS, .ref rB, .ref rP, .ref rG, .long ab0, .long be0, .int mk, .ref rM, .int md, .ref rN, .ref rL, .ref rZ, .ref rE, .ref rI, .int hc, .ref rA, .ref rX, .int (nI n), .ref rV, .ref rW, .int sl, .ref rC, .ref rF, .ref rQ, .ref rK, .ref rR, .ref rD])), (rV, .inl (E.2 1, 12, .inl To)), (rW, .inl (E.2 1, 12, .inl Bo))] sz) := by
  refine Met.ofW (cc := cX9_line) (maxL := 3) (ret := (some .int)) (by decide +kernel) rfl ?_
  intro p e s m args below meth c s₁ B hml hv
  obtain ⟨rfl, hsz, hP, hE, hD0⟩ := hv
  have hx := B.exec
  have hb := B.bytes
  have hr := B.returns
  have hts := atoms_spec (ws := wsX9_line) B.pre
  have hown : s.vm.findClass RX9 = some m.cls := findClass_of_methodNamed B.named
  have hlocks := B.notSynchronized
  have hK := hE.1
  have hNN := hE.2.1
  have hinX9 : ∀ w ∈ wsX90, w ∈ wsX9_line := fun w h => List.mem_cons_of_mem _ (List.mem_append_right _ h)
  subst hsz
  have hD := hD0.self (sz := s.heap.size)
  generalize hAe : va_A [(m0, .inr (9, [.int sh, .ref rO, .ref rU, .ref rT, .int rg, .ref rS, .ref rB, .ref rP, .ref rG, .long ab0, .long be0, .int mk, .ref rM, .int md, .ref rN, .ref rL, .ref rZ, .ref rE, .ref rI, .int hc, .ref rA, .ref rX, .int (nI n), .ref rV, .ref rW, .int sl, .ref rC, .ref rF, .ref rQ, .ref rK, .ref rR, .ref rD])), (rV, .inl (E.2 1, 12, .inl To)), (rW, .inl (E.2 1, 12, .inl Bo))] s.heap.size = A at hD ⊢
  have hA : ∀ q : Nat, s.heap.size ≤ q → A q := fun q h => by rw [← hAe]; exact Or.inr h
  have hS : va_S A s.heap s.heap [] := va_S.rf
  have hl := lv_entry ([.ref m0, .int up, .int dn]) (n := 3) (Nat.le_of_ble_eq_true rfl)
  rw [lg_entry_eq]
  generalize (lg_sl ([.ref m0, .int up, .int dn]) ++ List.replicate (3 - (lg_sl ([.ref m0, .int up, .int dn])).length) Slot.unset).toArray = ls at hl ⊢
  have hl : lv_has ls 3 [(0, .ref m0), (1, .int up), (2, .int dn)] := hl
  refine lv_iload_n hx hb dX9_line_0 rfl (lv_at hl 1 rfl) ?_
  refine lv_i2l (v := up.toInt64) hx hb dX9_line_1 (rfl) ?_
  refine lv_lconst (v := 1) hx hb dX9_line_2 (by decide) ?_
  refine lv_ldc2 (v := 10000) hx hb hown (hts (.constantLong RX9 198 (10000)) (by decide +kernel)) dX9_line_3 ?_
  refine rSi hE ⟨hx, hb, hml, hown, hts⟩ (c_X9_in l E up.toInt64 1 10000 ) (va_cwS 3 hts gX9_line_X9_in rfl rfl rfl (by decide +kernel) ⟨Nat.le_of_ble_eq_true rfl, Nat.le_of_ble_eq_true rfl⟩) (hP.sub [] rfl) rfl hl.1 rfl (Nat.le_of_ble_eq_true rfl) dX9_line_6 ⟨(Nat.zero_le _), (Nat.zero_le _)⟩ ?_
  rw [show fIn up.toInt64 1 10000 = fWi up 1 10000 from fIn_c (rfl) (by decide) (by decide)]
  refine lv_if_eq (tgt := 24) hx hb dX9_line_9 (by decide) (fun c_9 => by exfalso; have c_9 := fWi_0 c_9; exact c_9 hy.1) (fun c_9 => ?_)
  have c_9 := fWi_1 c_9
  refine lv_iload_n hx hb dX9_line_12 rfl (lv_at hl 2 rfl) ?_
  refine lv_i2l (v := dn.toInt64) hx hb dX9_line_13 (rfl) ?_
  refine lv_lconst (v := 1) hx hb dX9_line_14 (by decide) ?_
  refine lv_ldc2 (v := 10000) hx hb hown (hts (.constantLong RX9 198 (10000)) (by decide +kernel)) dX9_line_15 ?_
  refine rSi hE ⟨hx, hb, hml, hown, hts⟩ (c_X9_in l E dn.toInt64 1 10000 ) (va_cwS 3 hts gX9_line_X9_in rfl rfl rfl (by decide +kernel) ⟨Nat.le_of_ble_eq_true rfl, Nat.le_of_ble_eq_true rfl⟩) (hP.sub [] rfl) rfl hl.1 rfl (Nat.le_of_ble_eq_true rfl) dX9_line_18 ⟨(Nat.zero_le _), (Nat.zero_le _)⟩ ?_
  rw [show fIn dn.toInt64 1 10000 = fWi dn 1 10000 from fIn_c (rfl) (by decide) (by decide)]
  refine lv_if_ne (tgt := 26) hx hb dX9_line_21 (by decide) (fun c_21 => ?_) (fun c_21 => by exfalso; have c_21 := fWi_0 c_21; exact c_21 hy.2)
  have c_21 := fWi_1 c_21
  refine lv_aload_n hx hb dX9_line_26 rfl (lv_at hl 0 rfl) ?_
  refine va_get (D := E.1) (ci := 9) (v := .int (nI n)) (C := RX9) (T := TX9) (N := 32) hx hb hts hinX9 hown hK hP 0 rfl rfl 22 (by decide) (hts (.fieldLink RX9 200 "WornRingsModel" "lines" "I") (by decide +kernel)) (fun _ h9 => h9) rfl dX9_line_27 ?_
  refine lv_bipush (v := 12) hx hb dX9_line_30 (by decide) ?_
  refine lv_icmp_ne (tgt := 38) hx hb dX9_line_32 (by decide) (fun c_32 => ?_) (fun c_32 => by exfalso; have c_32 : n = 12 := (nI_eq (a := n) (b := 12) (by omega) (by omega)).mp c_32; omega)
  have c_32 : ¬ n = 12 := fun h9 => c_32 ((nI_eq (a := n) (b := 12) (by omega) (by omega)).mpr h9)
  refine lv_aload_n hx hb dX9_line_38 rfl (lv_at hl 0 rfl) ?_
  refine va_get (D := E.1) (ci := 9) (v := .ref rV) (C := RX9) (T := TX9) (N := 32) hx hb hts hinX9 hown hK hP 0 rfl rfl 23 (by decide) (hts (.fieldLink RX9 60 "WornRingsModel" "tops" "[I") (by decide +kernel)) (fun _ h9 => h9) rfl dX9_line_39 ?_
  refine lv_aload_n hx hb dX9_line_42 rfl (lv_at hl 0 rfl) ?_
  refine va_get (D := E.1) (ci := 9) (v := .int (nI n)) (C := RX9) (T := TX9) (N := 32) hx hb hts hinX9 hown hK hP 0 rfl rfl 22 (by decide) (hts (.fieldLink RX9 200 "WornRingsModel" "lines" "I") (by decide +kernel)) (fun _ h9 => h9) rfl dX9_line_43 ?_
  refine lv_iload_n hx hb dX9_line_46 rfl (lv_at hl 1 rfl) ?_
  refine va_iast hx hb hK hP hD hS 1 1 rfl rfl (vp_in_nI (by omega) (by omega)) dX9_line_47 (fun H locs hP hD hS => ?_)
  rw [nI_clamp (n := n) (by omega)] at hP hD
  have hP : va_P E.1 vwCl [(m0, .inr (9, [.int sh, .ref rO, .ref rU, .ref rT, .int rg, .ref rS, .ref rB, .ref rP, .ref rG, .long ab0, .long be0, .int mk, .ref rM, .int md, .ref rN, .ref rL, .ref rZ, .ref rE, .ref rI, .int hc, .ref rA, .ref rX, .int (nI n), .ref rV, .ref rW, .int sl, .ref rC, .ref rF, .ref rQ, .ref rK, .ref rR, .ref rD])), (rV, .inl (E.2 1, 12, .inl (upd To n up))), (rW, .inl (E.2 1, 12, .inl Bo))] H := hP
  have hD : va_D A [(m0, .inr (9, [.int sh, .ref rO, .ref rU, .ref rT, .int rg, .ref rS, .ref rB, .ref rP, .ref rG, .long ab0, .long be0, .int mk, .ref rM, .int md, .ref rN, .ref rL, .ref rZ, .ref rE, .ref rI, .int hc, .ref rA, .ref rX, .int (nI n), .ref rV, .ref rW, .int sl, .ref rC, .ref rF, .ref rQ, .ref rK, .ref rR, .ref rD])), (rV, .inl (E.2 1, 12, .inl (upd To n up))), (rW, .inl (E.2 1, 12, .inl Bo))] := hD
  refine lv_aload_n hx hb dX9_line_48 rfl (lv_at hl 0 rfl) ?_
  refine va_get (D := E.1) (ci := 9) (v := .ref rW) (C := RX9) (T := TX9) (N := 32) hx hb hts hinX9 hown hK hP 0 rfl rfl 24 (by decide) (hts (.fieldLink RX9 63 "WornRingsModel" "bottoms" "[I") (by decide +kernel)) (fun _ h9 => h9) rfl dX9_line_49 ?_
  refine lv_aload_n hx hb dX9_line_52 rfl (lv_at hl 0 rfl) ?_
  refine va_get (D := E.1) (ci := 9) (v := .int (nI n)) (C := RX9) (T := TX9) (N := 32) hx hb hts hinX9 hown hK hP 0 rfl rfl 22 (by decide) (hts (.fieldLink RX9 200 "WornRingsModel" "lines" "I") (by decide +kernel)) (fun _ h9 => h9) rfl dX9_line_53 ?_
  refine lv_iload_n hx hb dX9_line_56 rfl (lv_at hl 2 rfl) ?_
  refine va_iast hx hb hK hP hD hS 2 1 rfl rfl (vp_in_nI (by omega) (by omega)) dX9_line_57 (fun H locs hP hD hS => ?_)
  rw [nI_clamp (n := n) (by omega)] at hP hD
  have hP : va_P E.1 vwCl [(m0, .inr (9, [.int sh, .ref rO, .ref rU, .ref rT, .int rg, .ref rS, .ref rB, .ref rP, .ref rG, .long ab0, .long be0, .int mk, .ref rM, .int md, .ref rN, .ref rL, .ref rZ, .ref rE, .ref rI, .int hc, .ref rA, .ref rX, .int (nI n), .ref rV, .ref rW, .int sl, .ref rC, .ref rF, .ref rQ, .ref rK, .ref rR, .ref rD])), (rV, .inl (E.2 1, 12, .inl (upd To n up))), (rW, .inl (E.2 1, 12, .inl (upd Bo n dn)))] H := hP
  have hD : va_D A [(m0, .inr (9, [.int sh, .ref rO, .ref rU, .ref rT, .int rg, .ref rS, .ref rB, .ref rP, .ref rG, .long ab0, .long be0, .int mk, .ref rM, .int md, .ref rN, .ref rL, .ref rZ, .ref rE, .ref rI, .int hc, .ref rA, .ref rX, .int (nI n), .ref rV, .ref rW, .int sl, .ref rC, .ref rF, .ref rQ, .ref rK, .ref rR, .ref rD])), (rV, .inl (E.2 1, 12, .inl (upd To n up))), (rW, .inl (E.2 1, 12, .inl (upd Bo n dn)))] := hD
  refine lv_aload_n hx hb dX9_line_58 rfl (lv_at hl 0 rfl) ?_
  refine lv_dup hx hb dX9_line_59 rfl ?_
  refine va_get (D := E.1) (ci := 9) (v := .int (nI n)) (C := RX9) (T := TX9) (N := 32) hx hb hts hinX9 hown hK hP 0 rfl rfl 22 (by decide) (hts (.fieldLink RX9 200 "WornRingsModel" "lines" "I") (by decide +kernel)) (fun _ h9 => h9) rfl dX9_line_60 ?_
  refine lv_iconst (v := 1) hx hb dX9_line_63 (by decide) ?_
  refine lv_iadd hx hb dX9_line_64 ?_
  rw [show ((nI n) + (1 : Int32) : Int32) = nI (n + 1) from nI_add n 1]
  refine va_put (D := E.1) (ci := 9) (v := .int (nI (n + 1))) (ty := .int) (C := RX9) (T := TX9) (N := 32) hx hb hts hinX9 tyX9 tyX9_ok nmX9 hown hK hP hD hS 0 rfl rfl 22 (by decide) (hts (.fieldLink RX9 200 "WornRingsModel" "lines" "I") (by decide +kernel)) (fun _ h9 => h9) rfl (by decide +kernel) (rfl) (rfl) (Nat.le_of_ble_eq_true rfl) dX9_line_65 (fun H locs hP hD hS => ?_)
  have hP : va_P E.1 vwCl [(m0, .inr (9, [.int sh, .ref rO, .ref rU, .ref rT, .int rg, .ref rS, .ref rB, .ref rP, .ref rG, .long ab0, .long be0, .int mk, .ref rM, .int md, .ref rN, .ref rL, .ref rZ, .ref rE, .ref rI, .int hc, .ref rA, .ref rX, .int (nI (n + 1)), .ref rV, .ref rW, .int sl, .ref rC, .ref rF, .ref rQ, .ref rK, .ref rR, .ref rD])), (rV, .inl (E.2 1, 12, .inl (upd To n up))), (rW, .inl (E.2 1, 12, .inl (upd Bo n dn)))] H := hP
  have hD : va_D A [(m0, .inr (9, [.int sh, .ref rO, .ref rU, .ref rT, .int rg, .ref rS, .ref rB, .ref rP, .ref rG, .long ab0, .long be0, .int mk, .ref rM, .int md, .ref rN, .ref rL, .ref rZ, .ref rE, .ref rI, .int hc, .ref rA, .ref rX, .int (nI (n + 1)), .ref rV, .ref rW, .int sl, .ref rC, .ref rF, .ref rQ, .ref rK, .ref rR, .ref rD])), (rV, .inl (E.2 1, 12, .inl (upd To n up))), (rW, .inl (E.2 1, 12, .inl (upd Bo n dn)))] := hD
  refine lv_aload_n hx hb dX9_line_68 rfl (lv_at hl 0 rfl) ?_
  refine va_get (D := E.1) (ci := 9) (v := .int (nI (n + 1))) (C := RX9) (T := TX9) (N := 32) hx hb hts hinX9 hown hK hP 0 rfl rfl 22 (by decide) (hts (.fieldLink RX9 200 "WornRingsModel" "lines" "I") (by decide +kernel)) (fun _ h9 => h9) rfl dX9_line_69 ?_
  refine lv_iconst (v := 1) hx hb dX9_line_72 (by decide) ?_
  refine lv_isub hx hb dX9_line_73 ?_
  rw [show ((nI (n + 1)) - (1 : Int32) : Int32) = nI ((n + 1) - 1) from pk_sub (a := (n + 1)) (b := 1) (by omega)]
  have hP9 : va_P E.1 vwCl [(m0, .inr (9, [.int sh, .ref rO, .ref rU, .ref rT, .int rg, .ref rS, .ref rB, .ref rP, .ref rG, .long ab0, .long be0, .int mk, .ref rM, .int md, .ref rN, .ref rL, .ref rZ, .ref rE, .ref rI, .int hc, .ref rA, .ref rX, .int (nI (n + 1)), .ref rV, .ref rW, .int sl, .ref rC, .ref rF, .ref rQ, .ref rK, .ref rR, .ref rD])), (rV, .inl (E.2 1, 12, .inl (upd To n up))), (rW, .inl (E.2 1, 12, .inl (upd Bo n dn)))] H := hP.sub [0, 1, 2] rfl
  have hD9 : va_D A [(m0, .inr (9, [.int sh, .ref rO, .ref rU, .ref rT, .int rg, .ref rS, .ref rB, .ref rP, .ref rG, .long ab0, .long be0, .int mk, .ref rM, .int md, .ref rN, .ref rL, .ref rZ, .ref rE, .ref rI, .int hc, .ref rA, .ref rX, .int (nI (n + 1)), .ref rV, .ref rW, .int sl, .ref rC, .ref rF, .ref rQ, .ref rK, .ref rR, .ref rD])), (rV, .inl (E.2 1, 12, .inl (upd To n up))), (rW, .inl (E.2 1, 12, .inl (upd Bo n dn)))] := hD.sub [0, 1, 2] (by decide) rfl
  exact W.iret (v := nI ((n + 1) - 1)) hx hb hr (fun t9 ht9 hW9 => ⟨⟨nI ((n + 1) - 1), (), rfl, rfl, ⟨by rw [ht9]; exact hP9, hD9⟩⟩, hS.F ht9⟩) hS.2.2 dX9_line_74
set_option maxHeartbeats 1000000 in
set_option maxRecDepth 100000 in
theorem c_X9_unline (l : Launch) (E : EnvT) (sz : Nat) (m0 : Nat) (sh : Int32) (rO : Nat) (rU : Nat) (rT : Nat) (rg : Int32) (rS : Nat) (rB : Nat) (rP : Nat) (rG : Nat) (ab0 : Int64) (be0 : Int64) (mk : Int32) (rM : Nat) (md : Int32) (rN : Nat) (rL : Nat) (rZ : Nat) (rE : Nat) (rI : Nat) (hc : Int32) (rA : Nat) (rX : Nat) (lnn : Int32) (rV : Nat) (rW : Nat) (sl : Int32) (rC : Nat) (rF : Nat) (rQ : Nat) (rK : Nat) (rR : Nat) (rD : Nat)  : Met l yX9_unline wsX9_unline ({ frames := 0, cells := 0, slots := 0, locals := 0 }) (va_Pc [.ref m0] (PW E [(m0, .inr (9, [.int sh, .ref rO, .ref rU, .ref rT, .int rg, .ref rS, .ref rB, .ref rP, .ref rG, .long ab0, .long be0, .int mk, .ref rM, .int md, .ref rN, .ref rL, .ref rZ, .ref rE, .ref rI, .int hc, .ref rA, .ref rX, .int lnn, .ref rV, .ref rW, .int sl, .ref rC, .ref rF, .ref rQ, .ref rK, .ref rR, .ref rD]))] sz)) (va_Qi (fun (r : Int32) (uu : Unit) => r = lnn) (fun (uu : Unit) t => BW E (va_A [(m0, .inr (9, [.int sh, .ref rO, .ref rU, .ref rT, .int rg, .ref rS, .ref rB, .ref rP, .ref rG, .long ab0, .long be0, .int mk, .ref rM, .int md, .ref rN, .ref rL, .ref rZ, .ref rE, .ref rI, .int hc, .ref rA, .ref rX, .int lnn, .ref rV, .ref rW, .int sl, .ref rC, .ref rF, .ref rQ, .ref rK, .ref rR, .ref rD]))] sz) [(m0, .inr (9, [.int sh, .ref rO, .ref rU, .ref rT, .int rg, .ref rS, .ref rB, .ref rP, .ref rG, .long ab0, .long be0, .int mk, .ref rM, .int md, .ref rN, .ref rL, .ref rZ, .ref rE, .ref rI, .int hc, .ref rA, .ref rX, .int 0, .ref rV, .ref rW, .int sl, .ref rC, .ref rF, .ref rQ, .ref rK, .ref rR, .ref rD]))] t) (va_A [(m0, .inr (9, [.int sh, .ref rO, .ref rU, .ref rT, .int rg, .ref rS, .ref rB, .ref rP, .ref rG, .long ab0, .long be0, .int mk, .ref rM, .int md, .ref rN, .ref rL, .ref rZ, .ref rE, .ref rI, .int hc, .ref rA, .ref rX, .int lnn, .ref rV, .ref rW, .int sl, .ref rC, .ref rF, .ref rQ, .ref rK, .ref rR, .ref rD]))] sz)) 0 0 (va_A [(m0, .inr (9, [.int sh, .ref rO, .ref rU, .ref rT, .int rg, .ref rS, .ref rB, .ref rP, .ref rG, .long ab0, .long be0, .int mk, .ref rM, .int md, .ref rN, .ref rL, .ref rZ, .ref rE, .ref rI, .int hc, .ref rA, .ref rX, .int lnn, .ref rV, .ref rW, .int sl, .ref rC, .ref rF, .ref rQ, .ref rK, .ref rR, .ref rD]))] sz) := by
  refine Met.ofW (cc := cX9_unline) (maxL := 2) (ret := (some .int)) (by decide +kernel) rfl ?_
  intro p e s m args below meth c s₁ B hml hv
  obtain ⟨rfl, hsz, hP, hE, hD0⟩ := hv
  have hx := B.exec
  have hb := B.bytes
  have hr := B.returns
  have hts := atoms_spec (ws := wsX9_unline) B.pre
  have hown : s.vm.findClass RX9 = some m.cls := findClass_of_methodNamed B.named
  have hlocks := B.notSynchronized
  have hK := hE.1
  have hNN := hE.2.1
  have hinX9 : ∀ w ∈ wsX90, w ∈ wsX9_unline := fun w h => List.mem_cons_of_mem _ (List.mem_append_right _ h)
  subst hsz
  have hD := hD0.self (sz := s.heap.size)
  generalize hAe : va_A [(m0, .inr (9, [.int sh, .ref rO, .ref rU, .ref rT, .int rg, .ref rS, .ref rB, .ref rP, .ref rG, .long ab0, .long be0, .int mk, .ref rM, .int md, .ref rN, .ref rL, .ref rZ, .ref rE, .ref rI, .int hc, .ref rA, .ref rX, .int lnn, .ref rV, .ref rW, .int sl, .ref rC, .ref rF, .ref rQ, .ref rK, .ref rR, .ref rD]))] s.heap.size = A at hD ⊢
  have hA : ∀ q : Nat, s.heap.size ≤ q → A q := fun q h => by rw [← hAe]; exact Or.inr h
  have hS : va_S A s.heap s.heap [] := va_S.rf
  have hl := lv_entry ([.ref m0]) (n := 2) (Nat.le_of_ble_eq_true rfl)
  rw [lg_entry_eq]
  generalize (lg_sl ([.ref m0]) ++ List.replicate (2 - (lg_sl ([.ref m0])).length) Slot.unset).toArray = ls at hl ⊢
  have hl : lv_has ls 2 [(0, .ref m0)] := hl
  refine lv_aload_n hx hb dX9_unline_0 rfl (lv_at hl 0 rfl) ?_
  refine va_get (D := E.1) (ci := 9) (v := .int lnn) (C := RX9) (T := TX9) (N := 32) hx hb hts hinX9 hown hK hP 0 rfl rfl 22 (by decide) (hts (.fieldLink RX9 200 "WornRingsModel" "lines" "I") (by decide +kernel)) (fun _ h9 => h9) rfl dX9_unline_1 ?_
  refine lv_istore_n (lv' := [(1, .int lnn), (0, .ref m0)]) hx hb dX9_unline_4 rfl hl (by decide) rfl (fun ls hl => ?_)
  refine lv_aload_n hx hb dX9_unline_5 rfl (lv_at hl 1 rfl) ?_
  refine lv_iconst (v := 0) hx hb dX9_unline_6 (by decide) ?_
  refine va_put (D := E.1) (ci := 9) (v := .int 0) (ty := .int) (C := RX9) (T := TX9) (N := 32) hx hb hts hinX9 tyX9 tyX9_ok nmX9 hown hK hP hD hS 0 rfl rfl 22 (by decide) (hts (.fieldLink RX9 200 "WornRingsModel" "lines" "I") (by decide +kernel)) (fun _ h9 => h9) rfl (by decide +kernel) (rfl) (rfl) (Nat.le_of_ble_eq_true rfl) dX9_unline_7 (fun H locs hP hD hS => ?_)
  have hP : va_P E.1 vwCl [(m0, .inr (9, [.int sh, .ref rO, .ref rU, .ref rT, .int rg, .ref rS, .ref rB, .ref rP, .ref rG, .long ab0, .long be0, .int mk, .ref rM, .int md, .ref rN, .ref rL, .ref rZ, .ref rE, .ref rI, .int hc, .ref rA, .ref rX, .int 0, .ref rV, .ref rW, .int sl, .ref rC, .ref rF, .ref rQ, .ref rK, .ref rR, .ref rD]))] H := hP
  have hD : va_D A [(m0, .inr (9, [.int sh, .ref rO, .ref rU, .ref rT, .int rg, .ref rS, .ref rB, .ref rP, .ref rG, .long ab0, .long be0, .int mk, .ref rM, .int md, .ref rN, .ref rL, .ref rZ, .ref rE, .ref rI, .int hc, .ref rA, .ref rX, .int 0, .ref rV, .ref rW, .int sl, .ref rC, .ref rF, .ref rQ, .ref rK, .ref rR, .ref rD]))] := hD
  refine lv_iload_n hx hb dX9_unline_10 rfl (lv_at hl 0 rfl) ?_
  have hP9 : va_P E.1 vwCl [(m0, .inr (9, [.int sh, .ref rO, .ref rU, .ref rT, .int rg, .ref rS, .ref rB, .ref rP, .ref rG, .long ab0, .long be0, .int mk, .ref rM, .int md, .ref rN, .ref rL, .ref rZ, .ref rE, .ref rI, .int hc, .ref rA, .ref rX, .int 0, .ref rV, .ref rW, .int sl, .ref rC, .ref rF, .ref rQ, .ref rK, .ref rR, .ref rD]))] H := hP.sub [0] rfl
  have hD9 : va_D A [(m0, .inr (9, [.int sh, .ref rO, .ref rU, .ref rT, .int rg, .ref rS, .ref rB, .ref rP, .ref rG, .long ab0, .long be0, .int mk, .ref rM, .int md, .ref rN, .ref rL, .ref rZ, .ref rE, .ref rI, .int hc, .ref rA, .ref rX, .int 0, .ref rV, .ref rW, .int sl, .ref rC, .ref rF, .ref rQ, .ref rK, .ref rR, .ref rD]))] := hD.sub [0] (by decide) rfl
  exact W.iret (v := lnn) hx hb hr (fun t9 ht9 hW9 => ⟨⟨lnn, (), rfl, rfl, ⟨by rw [ht9]; exact hP9, hD9⟩⟩, hS.F ht9⟩) hS.2.2 dX9_unline_11
set_option maxHeartbeats 1000000 in
set_option maxRecDepth 100000 in
theorem c_X9_slip_no (l : Launch) (E : EnvT) (sz : Nat) (m0 : Nat) (sh : Int32) (rO : Nat) (rU : Nat) (rT : Nat) (rg : Int32) (rS : Nat) (rB : Nat) (rP : Nat) (rG : Nat) (ab0 : Int64) (be0 : Int64) (mk : Int32) (rM : Nat) (md : Int32) (rN : Nat) (rL : Nat) (rZ : Nat) (rE : Nat) (rI : Nat) (hc : Int32) (rA : Nat) (rX : Nat) (lnn : Int32) (rV : Nat) (rW : Nat) (sl : Int32) (rC : Nat) (rF : Nat) (rQ : Nat) (rK : Nat) (rR : Nat) (rD : Nat) (ev : Int32) (hno : ¬ (0 ≤ ev ∧ ev ≤ 100)) : Met l yX9_slip wsX9_slip ({ frames := 1, cells := 0, slots := 0, locals := 25 }) (va_Pc [.ref m0, .int ev] (PW E [(m0, .inr (9, [.int sh, .ref rO, .ref rU, .ref rT, .int rg, .ref rS, .ref rB, .ref rP, .ref rG, .long ab0, .long be0, .int mk, .ref rM, .int md, .ref rN, .ref rL, .ref rZ, .ref rE, .ref rI, .int hc, .ref rA, .ref rX, .int lnn, .ref rV, .ref rW, .int sl, .ref rC, .ref rF, .ref rQ, .ref rK, .ref rR, .ref rD]))] sz)) (va_Qi (fun (r : Int32) (uu : Unit) => r = -1) (fun (uu : Unit) t => BW E (va_A [(m0, .inr (9, [.int sh, .ref rO, .ref rU, .ref rT, .int rg, .ref rS, .ref rB, .ref rP, .ref rG, .long ab0, .long be0, .int mk, .ref rM, .int md, .ref rN, .ref rL, .ref rZ, .ref rE, .ref rI, .int hc, .ref rA, .ref rX, .int lnn, .ref rV, .ref rW, .int sl, .ref rC, .ref rF, .ref rQ, .ref rK, .ref rR, .ref rD]))] sz) [(m0, .inr (9, [.int sh, .ref rO, .ref rU, .ref rT, .int rg, .ref rS, .ref rB, .ref rP, .ref rG, .long ab0, .long be0, .int mk, .ref rM, .int md, .ref rN, .ref rL, .ref rZ, .ref rE, .ref rI, .int hc, .ref rA, .ref rX, .int lnn, .ref rV, .ref rW, .int sl, .ref rC, .ref rF, .ref rQ, .ref rK, .ref rR, .ref rD]))] t) (va_A [(m0, .inr (9, [.int sh, .ref rO, .ref rU, .ref rT, .int rg, .ref rS, .ref rB, .ref rP, .ref rG, .long ab0, .long be0, .int mk, .ref rM, .int md, .ref rN, .ref rL, .ref rZ, .ref rE, .ref rI, .int hc, .ref rA, .ref rX, .int lnn, .ref rV, .ref rW, .int sl, .ref rC, .ref rF, .ref rQ, .ref rK, .ref rR, .ref rD]))] sz)) 0 0 (va_A [(m0, .inr (9, [.int sh, .ref rO, .ref rU, .ref rT, .int rg, .ref rS, .ref rB, .ref rP, .ref rG, .long ab0, .long be0, .int mk, .ref rM, .int md, .ref rN, .ref rL, .ref rZ, .ref rE, .ref rI, .int hc, .ref rA, .ref rX, .int lnn, .ref rV, .ref rW, .int sl, .ref rC, .ref rF, .ref rQ, .ref rK, .ref rR, .ref rD]))] sz) := by
  refine Met.ofW (cc := cX9_slip) (maxL := 3) (ret := (some .int)) (by decide +kernel) rfl ?_
  intro p e s m args below meth c s₁ B hml hv
  obtain ⟨rfl, hsz, hP, hE, hD0⟩ := hv
  have hx := B.exec
  have hb := B.bytes
  have hr := B.returns
  have hts := atoms_spec (ws := wsX9_slip) B.pre
  have hown : s.vm.findClass RX9 = some m.cls := findClass_of_methodNamed B.named
  have hlocks := B.notSynchronized
  have hK := hE.1
  have hNN := hE.2.1
  subst hsz
  have hD := hD0.self (sz := s.heap.size)
  generalize hAe : va_A [(m0, .inr (9, [.int sh, .ref rO, .ref rU, .ref rT, .int rg, .ref rS, .ref rB, .ref rP, .ref rG, .long ab0, .long be0, .int mk, .ref rM, .int md, .ref rN, .ref rL, .ref rZ, .ref rE, .ref rI, .int hc, .ref rA, .ref rX, .int lnn, .ref rV, .ref rW, .int sl, .ref rC, .ref rF, .ref rQ, .ref rK, .ref rR, .ref rD]))] s.heap.size = A at hD ⊢
  have hA : ∀ q : Nat, s.heap.size ≤ q → A q := fun q h => by rw [← hAe]; exact Or.inr h
  have hS : va_S A s.heap s.heap [] := va_S.rf
  have hl := lv_entry ([.ref m0, .int ev]) (n := 3) (Nat.le_of_ble_eq_true rfl)
  rw [lg_entry_eq]
  generalize (lg_sl ([.ref m0, .int ev]) ++ List.replicate (3 - (lg_sl ([.ref m0, .int ev])).length) Slot.unset).toArray = ls at hl ⊢
  have hl : lv_has ls 3 [(0, .ref m0), (1, .int ev)] := hl
  refine lv_iload_n hx hb dX9_slip_0 rfl (lv_at hl 1 rfl) ?_
  refine lv_i2l (v := ev.toInt64) hx hb dX9_slip_1 (rfl) ?_
  refine lv_lconst (v := 0) hx hb dX9_slip_2 (by decide) ?_
  refine lv_ldc2 (v := 100) hx hb hown (hts (.constantLong RX9 112 (100)) (by decide +kernel)) dX9_slip_3 ?_
  refine rSi hE ⟨hx, hb, hml, hown, hts⟩ (c_X9_in l E ev.toInt64 0 100 ) (va_cwS 3 hts gX9_slip_X9_in rfl rfl rfl (by decide +kernel) ⟨Nat.le_of_ble_eq_true rfl, Nat.le_of_ble_eq_true rfl⟩) (hP.sub [] rfl) rfl hl.1 rfl (Nat.le_of_ble_eq_true rfl) dX9_slip_6 ⟨(Nat.zero_le _), (Nat.zero_le _)⟩ ?_
  rw [show fIn ev.toInt64 0 100 = fWi ev 0 100 from fIn_c (rfl) (by decide) (by decide)]
  refine lv_if_ne (tgt := 14) hx hb dX9_slip_9 (by decide) (fun c_9 => by exfalso; have c_9 := fWi_1 c_9; exact hno c_9) (fun c_9 => ?_)
  have c_9 := fWi_0 c_9
  refine lv_iconst (v := (-1)) hx hb dX9_slip_12 (by decide) ?_
  have hP9 : va_P E.1 vwCl [(m0, .inr (9, [.int sh, .ref rO, .ref rU, .ref rT, .int rg, .ref rS, .ref rB, .ref rP, .ref rG, .long ab0, .long be0, .int mk, .ref rM, .int md, .ref rN, .ref rL, .ref rZ, .ref rE, .ref rI, .int hc, .ref rA, .ref rX, .int lnn, .ref rV, .ref rW, .int sl, .ref rC, .ref rF, .ref rQ, .ref rK, .ref rR, .ref rD]))] s.heap := hP.sub [0] rfl
  have hD9 : va_D A [(m0, .inr (9, [.int sh, .ref rO, .ref rU, .ref rT, .int rg, .ref rS, .ref rB, .ref rP, .ref rG, .long ab0, .long be0, .int mk, .ref rM, .int md, .ref rN, .ref rL, .ref rZ, .ref rE, .ref rI, .int hc, .ref rA, .ref rX, .int lnn, .ref rV, .ref rW, .int sl, .ref rC, .ref rF, .ref rQ, .ref rK, .ref rR, .ref rD]))] := hD.sub [0] (by decide) rfl
  exact W.iret (v := (-1)) hx hb hr (fun t9 ht9 hW9 => ⟨⟨(-1), (), rfl, rfl, ⟨by rw [ht9]; exact hP9, hD9⟩⟩, hS.F ht9⟩) hS.2.2 dX9_slip_13
set_option maxHeartbeats 1000000 in
set_option maxRecDepth 100000 in
theorem c_X9_slip_yes (l : Launch) (E : EnvT) (sz : Nat) (m0 : Nat) (sh : Int32) (rO : Nat) (rU : Nat) (rT : Nat) (rg : Int32) (rS : Nat) (rB : Nat) (rP : Nat) (rG : Nat) (ab0 : Int64) (be0 : Int64) (mk : Int32) (rM : Nat) (md : Int32) (rN : Nat) (rL : Nat) (rZ : Nat) (rE : Nat) (rI : Nat) (hc : Int32) (rA : Nat) (rX : Nat) (lnn : Int32) (rV : Nat) (rW : Nat) (sl : Int32) (rC : Nat) (rF : Nat) (rQ : Nat) (rK : Nat) (rR : Nat) (rD : Nat) (ev : Int32) (hy : 0 ≤ ev ∧ ev ≤ 100) : Met l yX9_slip wsX9_slip ({ frames := 1, cells := 0, slots := 0, locals := 25 }) (va_Pc [.ref m0, .int ev] (PW E [(m0, .inr (9, [.int sh, .ref rO, .ref rU, .ref rT, .int rg, .ref rS, .ref rB, .ref rP, .ref rG, .long ab0, .long be0, .int mk, .ref rM, .int md, .ref rN, .ref rL, .ref rZ, .ref rE, .ref rI, .int hc, .ref rA, .ref rX, .int lnn, .ref rV, .ref rW, .int sl, .ref rC, .ref rF, .ref rQ, .ref rK, .ref rR, .ref rD]))] sz)) (va_Qi (fun (r : Int32) (uu : Unit) => r = sl) (fun (uu : Unit) t => BW E (va_A [(m0, .inr (9, [.int sh, .ref rO, .ref rU, .ref rT, .int rg, .ref rS, .ref rB, .ref rP, .ref rG, .long ab0, .long be0, .int mk, .ref rM, .int md, .ref rN, .ref rL, .ref rZ, .ref rE, .ref rI, .int hc, .ref rA, .ref rX, .int lnn, .ref rV, .ref rW, .int sl, .ref rC, .ref rF, .ref rQ, .ref rK, .ref rR, .ref rD]))] sz) [(m0, .inr (9, [.int sh, .ref rO, .ref rU, .ref rT, .int rg, .ref rS, .ref rB, .ref rP, .ref rG, .long ab0, .long be0, .int mk, .ref rM, .int md, .ref rN, .ref rL, .ref rZ, .ref rE, .ref rI, .int hc, .ref rA, .ref rX, .int lnn, .ref rV, .ref rW, .int ev, .ref rC, .ref rF, .ref rQ, .ref rK, .ref rR, .ref rD]))] t) (va_A [(m0, .inr (9, [.int sh, .ref rO, .ref rU, .ref rT, .int rg, .ref rS, .ref rB, .ref rP, .ref rG, .long ab0, .long be0, .int mk, .ref rM, .int md, .ref rN, .ref rL, .ref rZ, .ref rE, .ref rI, .int hc, .ref rA, .ref rX, .int lnn, .ref rV, .ref rW, .int sl, .ref rC, .ref rF, .ref rQ, .ref rK, .ref rR, .ref rD]))] sz)) 0 0 (va_A [(m0, .inr (9, [.int sh, .ref rO, .ref rU, .ref rT, .int rg, .ref rS, .ref rB, .ref rP, .ref rG, .long ab0, .long be0, .int mk, .ref rM, .int md, .ref rN, .ref rL, .ref rZ, .ref rE, .ref rI, .int hc, .ref rA, .ref rX, .int lnn, .ref rV, .ref rW, .int sl, .ref rC, .ref rF, .ref rQ, .ref rK, .ref rR, .ref rD]))] sz) := by
  refine Met.ofW (cc := cX9_slip) (maxL := 3) (ret := (some .int)) (by decide +kernel) rfl ?_
  intro p e s m args below meth c s₁ B hml hv
  obtain ⟨rfl, hsz, hP, hE, hD0⟩ := hv
  have hx := B.exec
  have hb := B.bytes
  have hr := B.returns
  have hts := atoms_spec (ws := wsX9_slip) B.pre
  have hown : s.vm.findClass RX9 = some m.cls := findClass_of_methodNamed B.named
  have hlocks := B.notSynchronized
  have hK := hE.1
  have hNN := hE.2.1
  have hinX9 : ∀ w ∈ wsX90, w ∈ wsX9_slip := fun w h => List.mem_cons_of_mem _ (List.mem_append_right _ h)
  subst hsz
  have hD := hD0.self (sz := s.heap.size)
  generalize hAe : va_A [(m0, .inr (9, [.int sh, .ref rO, .ref rU, .ref rT, .int rg, .ref rS, .ref rB, .ref rP, .ref rG, .long ab0, .long be0, .int mk, .ref rM, .int md, .ref rN, .ref rL, .ref rZ, .ref rE, .ref rI, .int hc, .ref rA, .ref rX, .int lnn, .ref rV, .ref rW, .int sl, .ref rC, .ref rF, .ref rQ, .ref rK, .ref rR, .ref rD]))] s.heap.size = A at hD ⊢
  have hA : ∀ q : Nat, s.heap.size ≤ q → A q := fun q h => by rw [← hAe]; exact Or.inr h
  have hS : va_S A s.heap s.heap [] := va_S.rf
  have hl := lv_entry ([.ref m0, .int ev]) (n := 3) (Nat.le_of_ble_eq_true rfl)
  rw [lg_entry_eq]
  generalize (lg_sl ([.ref m0, .int ev]) ++ List.replicate (3 - (lg_sl ([.ref m0, .int ev])).length) Slot.unset).toArray = ls at hl ⊢
  have hl : lv_has ls 3 [(0, .ref m0), (1, .int ev)] := hl
  refine lv_iload_n hx hb dX9_slip_0 rfl (lv_at hl 1 rfl) ?_
  refine lv_i2l (v := ev.toInt64) hx hb dX9_slip_1 (rfl) ?_
  refine lv_lconst (v := 0) hx hb dX9_slip_2 (by decide) ?_
  refine lv_ldc2 (v := 100) hx hb hown (hts (.constantLong RX9 112 (100)) (by decide +kernel)) dX9_slip_3 ?_
  refine rSi hE ⟨hx, hb, hml, hown, hts⟩ (c_X9_in l E ev.toInt64 0 100 ) (va_cwS 3 hts gX9_slip_X9_in rfl rfl rfl (by decide +kernel) ⟨Nat.le_of_ble_eq_true rfl, Nat.le_of_ble_eq_true rfl⟩) (hP.sub [] rfl) rfl hl.1 rfl (Nat.le_of_ble_eq_true rfl) dX9_slip_6 ⟨(Nat.zero_le _), (Nat.zero_le _)⟩ ?_
  rw [show fIn ev.toInt64 0 100 = fWi ev 0 100 from fIn_c (rfl) (by decide) (by decide)]
  refine lv_if_ne (tgt := 14) hx hb dX9_slip_9 (by decide) (fun c_9 => ?_) (fun c_9 => by exfalso; have c_9 := fWi_0 c_9; exact c_9 hy)
  have c_9 := fWi_1 c_9
  refine lv_aload_n hx hb dX9_slip_14 rfl (lv_at hl 0 rfl) ?_
  refine va_get (D := E.1) (ci := 9) (v := .int sl) (C := RX9) (T := TX9) (N := 32) hx hb hts hinX9 hown hK hP 0 rfl rfl 25 (by decide) (hts (.fieldLink RX9 66 "WornRingsModel" "slip" "I") (by decide +kernel)) (fun _ h9 => h9) rfl dX9_slip_15 ?_
  refine lv_istore_n (lv' := [(2, .int sl), (0, .ref m0), (1, .int ev)]) hx hb dX9_slip_18 rfl hl (by decide) rfl (fun ls hl => ?_)
  refine lv_aload_n hx hb dX9_slip_19 rfl (lv_at hl 1 rfl) ?_
  refine lv_iload_n hx hb dX9_slip_20 rfl (lv_at hl 2 rfl) ?_
  refine va_put (D := E.1) (ci := 9) (v := .int ev) (ty := .int) (C := RX9) (T := TX9) (N := 32) hx hb hts hinX9 tyX9 tyX9_ok nmX9 hown hK hP hD hS 0 rfl rfl 25 (by decide) (hts (.fieldLink RX9 66 "WornRingsModel" "slip" "I") (by decide +kernel)) (fun _ h9 => h9) rfl (by decide +kernel) (rfl) (rfl) (Nat.le_of_ble_eq_true rfl) dX9_slip_21 (fun H locs hP hD hS => ?_)
  have hP : va_P E.1 vwCl [(m0, .inr (9, [.int sh, .ref rO, .ref rU, .ref rT, .int rg, .ref rS, .ref rB, .ref rP, .ref rG, .long ab0, .long be0, .int mk, .ref rM, .int md, .ref rN, .ref rL, .ref rZ, .ref rE, .ref rI, .int hc, .ref rA, .ref rX, .int lnn, .ref rV, .ref rW, .int ev, .ref rC, .ref rF, .ref rQ, .ref rK, .ref rR, .ref rD]))] H := hP
  have hD : va_D A [(m0, .inr (9, [.int sh, .ref rO, .ref rU, .ref rT, .int rg, .ref rS, .ref rB, .ref rP, .ref rG, .long ab0, .long be0, .int mk, .ref rM, .int md, .ref rN, .ref rL, .ref rZ, .ref rE, .ref rI, .int hc, .ref rA, .ref rX, .int lnn, .ref rV, .ref rW, .int ev, .ref rC, .ref rF, .ref rQ, .ref rK, .ref rR, .ref rD]))] := hD
  refine lv_iload_n hx hb dX9_slip_24 rfl (lv_at hl 0 rfl) ?_
  have hP9 : va_P E.1 vwCl [(m0, .inr (9, [.int sh, .ref rO, .ref rU, .ref rT, .int rg, .ref rS, .ref rB, .ref rP, .ref rG, .long ab0, .long be0, .int mk, .ref rM, .int md, .ref rN, .ref rL, .ref rZ, .ref rE, .ref rI, .int hc, .ref rA, .ref rX, .int lnn, .ref rV, .ref rW, .int ev, .ref rC, .ref rF, .ref rQ, .ref rK, .ref rR, .ref rD]))] H := hP.sub [0] rfl
  have hD9 : va_D A [(m0, .inr (9, [.int sh, .ref rO, .ref rU, .ref rT, .int rg, .ref rS, .ref rB, .ref rP, .ref rG, .long ab0, .long be0, .int mk, .ref rM, .int md, .ref rN, .ref rL, .ref rZ, .ref rE, .ref rI, .int hc, .ref rA, .ref rX, .int lnn, .ref rV, .ref rW, .int ev, .ref rC, .ref rF, .ref rQ, .ref rK, .ref rR, .ref rD]))] := hD.sub [0] (by decide) rfl
  exact W.iret (v := sl) hx hb hr (fun t9 ht9 hW9 => ⟨⟨sl, (), rfl, rfl, ⟨by rw [ht9]; exact hP9, hD9⟩⟩, hS.F ht9⟩) hS.2.2 dX9_slip_25
set_option maxHeartbeats 1000000 in
set_option maxRecDepth 100000 in
theorem c_X9_laws_no (l : Launch) (E : EnvT) (sz : Nat) (m0 : Nat) (sh : Int32) (rO : Nat) (rU : Nat) (rT : Nat) (rg : Int32) (rS : Nat) (rB : Nat) (rP : Nat) (rG : Nat) (ab0 : Int64) (be0 : Int64) (mk : Int32) (rM : Nat) (md : Int32) (rN : Nat) (rL : Nat) (rZ : Nat) (rE : Nat) (rI : Nat) (hc : Int32) (rA : Nat) (rX : Nat) (lnn : Int32) (rV : Nat) (rW : Nat) (sl : Int32) (rC : Nat) (rF : Nat) (rQ : Nat) (rK : Nat) (rR : Nat) (rD : Nat) (la : Int32) (lb : Int32) (lu : Int32) (hno : ¬ ((1 ≤ la ∧ la ≤ 1000) ∧ (1 ≤ lb ∧ lb ≤ la) ∧ (1 ≤ lu ∧ lu ≤ 4))) : Met l yX9_laws wsX9_laws ({ frames := 1, cells := 0, slots := 0, locals := 25 }) (va_Pc [.ref m0, .int la, .int lb, .int lu] (PW E [(m0, .inr (9, [.int sh, .ref rO, .ref rU, .ref rT, .int rg, .ref rS, .ref rB, .ref rP, .ref rG, .long ab0, .long be0, .int mk, .ref rM, .int md, .ref rN, .ref rL, .ref rZ, .ref rE, .ref rI, .int hc, .ref rA, .ref rX, .int lnn, .ref rV, .ref rW, .int sl, .ref rC, .ref rF, .ref rQ, .ref rK, .ref rR, .ref rD]))] sz)) (va_Qi (fun (r : Int32) (uu : Unit) => r = -1) (fun (uu : Unit) t => BW E (va_A [(m0, .inr (9, [.int sh, .ref rO, .ref rU, .ref rT, .int rg, .ref rS, .ref rB, .ref rP, .ref rG, .long ab0, .long be0, .int mk, .ref rM, .int md, .ref rN, .ref rL, .ref rZ, .ref rE, .ref rI, .int hc, .ref rA, .ref rX, .int lnn, .ref rV, .ref rW, .int sl, .ref rC, .ref rF, .ref rQ, .ref rK, .ref rR, .ref rD]))] sz) [(m0, .inr (9, [.int sh, .ref rO, .ref rU, .ref rT, .int rg, .ref rS, .ref rB, .ref rP, .ref rG, .long ab0, .long be0, .int mk, .ref rM, .int md, .ref rN, .ref rL, .ref rZ, .ref rE, .ref rI, .int hc, .ref rA, .ref rX, .int lnn, .ref rV, .ref rW, .int sl, .ref rC, .ref rF, .ref rQ, .ref rK, .ref rR, .ref rD]))] t) (va_A [(m0, .inr (9, [.int sh, .ref rO, .ref rU, .ref rT, .int rg, .ref rS, .ref rB, .ref rP, .ref rG, .long ab0, .long be0, .int mk, .ref rM, .int md, .ref rN, .ref rL, .ref rZ, .ref rE, .ref rI, .int hc, .ref rA, .ref rX, .int lnn, .ref rV, .ref rW, .int sl, .ref rC, .ref rF, .ref rQ, .ref rK, .ref rR, .ref rD]))] sz)) 0 0 (va_A [(m0, .inr (9, [.int sh, .ref rO, .ref rU, .ref rT, .int rg, .ref rS, .ref rB, .ref rP, .ref rG, .long ab0, .long be0, .int mk, .ref rM, .int md, .ref rN, .ref rL, .ref rZ, .ref rE, .ref rI, .int hc, .ref rA, .ref rX, .int lnn, .ref rV, .ref rW, .int sl, .ref rC, .ref rF, .ref rQ, .ref rK, .ref rR, .ref rD]))] sz) := by
  refine Met.ofW (cc := cX9_laws) (maxL := 4) (ret := (some .int)) (by decide +kernel) rfl ?_
  intro p e s m args below meth c s₁ B hml hv
  obtain ⟨rfl, hsz, hP, hE, hD0⟩ := hv
  have hx := B.exec
  have hb := B.bytes
  have hr := B.returns
  have hts := atoms_spec (ws := wsX9_laws) B.pre
  have hown : s.vm.findClass RX9 = some m.cls := findClass_of_methodNamed B.named
  have hlocks := B.notSynchronized
  have hK := hE.1
  have hNN := hE.2.1
  subst hsz
  have hD := hD0.self (sz := s.heap.size)
  generalize hAe : va_A [(m0, .inr (9, [.int sh, .ref rO, .ref rU, .ref rT, .int rg, .ref rS, .ref rB, .ref rP, .ref rG, .long ab0, .long be0, .int mk, .ref rM, .int md, .ref rN, .ref rL, .ref rZ, .ref rE, .ref rI, .int hc, .ref rA, .ref rX, .int lnn, .ref rV, .ref rW, .int sl, .ref rC, .ref rF, .ref rQ, .ref rK, .ref rR, .ref rD]))] s.heap.size = A at hD ⊢
  have hA : ∀ q : Nat, s.heap.size ≤ q → A q := fun q h => by rw [← hAe]; exact Or.inr h
  have hS : va_S A s.heap s.heap [] := va_S.rf
  have hl := lv_entry ([.ref m0, .int la, .int lb, .int lu]) (n := 4) (Nat.le_of_ble_eq_true rfl)
  rw [lg_entry_eq]
  generalize (lg_sl ([.ref m0, .int la, .int lb, .int lu]) ++ List.replicate (4 - (lg_sl ([.ref m0, .int la, .int lb, .int lu])).length) Slot.unset).toArray = ls at hl ⊢
  have hl : lv_has ls 4 [(0, .ref m0), (1, .int la), (2, .int lb), (3, .int lu)] := hl
  refine lv_iload_n hx hb dX9_laws_0 rfl (lv_at hl 2 rfl) ?_
  refine lv_i2l (v := lb.toInt64) hx hb dX9_laws_1 (rfl) ?_
  refine lv_lconst (v := 1) hx hb dX9_laws_2 (by decide) ?_
  refine lv_iload_n hx hb dX9_laws_3 rfl (lv_at hl 1 rfl) ?_
  refine lv_i2l (v := la.toInt64) hx hb dX9_laws_4 (rfl) ?_
  refine rSi hE ⟨hx, hb, hml, hown, hts⟩ (c_X9_in l E lb.toInt64 1 la.toInt64 ) (va_cwS 3 hts gX9_laws_X9_in rfl rfl rfl (by decide +kernel) ⟨Nat.le_of_ble_eq_true rfl, Nat.le_of_ble_eq_true rfl⟩) (hP.sub [] rfl) rfl hl.1 rfl (Nat.le_of_ble_eq_true rfl) dX9_laws_5 ⟨(Nat.zero_le _), (Nat.zero_le _)⟩ ?_
  rw [show fIn lb.toInt64 1 la.toInt64 = fWi lb 1 la from fIn_c (rfl) (by decide) (rfl)]
  refine lv_if_eq (tgt := 35) hx hb dX9_laws_8 (by decide) (fun c_8 => ?_) (fun c_8 => ?_)
  · have c_8 := fWi_0 c_8
    refine lv_iconst (v := (-1)) hx hb dX9_laws_35 (by decide) ?_
    have hP9 : va_P E.1 vwCl [(m0, .inr (9, [.int sh, .ref rO, .ref rU, .ref rT, .int rg, .ref rS, .ref rB, .ref rP, .ref rG, .long ab0, .long be0, .int mk, .ref rM, .int md, .ref rN, .ref rL, .ref rZ, .ref rE, .ref rI, .int hc, .ref rA, .ref rX, .int lnn, .ref rV, .ref rW, .int sl, .ref rC, .ref rF, .ref rQ, .ref rK, .ref rR, .ref rD]))] s.heap := hP.sub [0] rfl
    have hD9 : va_D A [(m0, .inr (9, [.int sh, .ref rO, .ref rU, .ref rT, .int rg, .ref rS, .ref rB, .ref rP, .ref rG, .long ab0, .long be0, .int mk, .ref rM, .int md, .ref rN, .ref rL, .ref rZ, .ref rE, .ref rI, .int hc, .ref rA, .ref rX, .int lnn, .ref rV, .ref rW, .int sl, .ref rC, .ref rF, .ref rQ, .ref rK, .ref rR, .ref rD]))] := hD.sub [0] (by decide) rfl
    exact W.iret (v := (-1)) hx hb hr (fun t9 ht9 hW9 => ⟨⟨(-1), (), rfl, rfl, ⟨by rw [ht9]; exact hP9, hD9⟩⟩, hS.F ht9⟩) hS.2.2 dX9_laws_36
  · have c_8 := fWi_1 c_8
    refine lv_iload_n hx hb dX9_laws_11 rfl (lv_at hl 1 rfl) ?_
    refine lv_i2l (v := la.toInt64) hx hb dX9_laws_12 (rfl) ?_
    refine lv_lconst (v := 1) hx hb dX9_laws_13 (by decide) ?_
    refine lv_ldc2 (v := 1000) hx hb hown (hts (.constantLong RX9 165 (1000)) (by decide +kernel)) dX9_laws_14 ?_
    refine rSi hE ⟨hx, hb, hml, hown, hts⟩ (c_X9_in l E la.toInt64 1 1000 ) (va_cwS 3 hts gX9_laws_X9_in rfl rfl rfl (by decide +kernel) ⟨Nat.le_of_ble_eq_true rfl, Nat.le_of_ble_eq_true rfl⟩) (hP.sub [] rfl) rfl hl.1 rfl (Nat.le_of_ble_eq_true rfl) dX9_laws_17 ⟨(Nat.zero_le _), (Nat.zero_le _)⟩ ?_
    rw [show fIn la.toInt64 1 1000 = fWi la 1 1000 from fIn_c (rfl) (by decide) (by decide)]
    refine lv_if_eq (tgt := 35) hx hb dX9_laws_20 (by decide) (fun c_20 => ?_) (fun c_20 => ?_)
    · have c_20 := fWi_0 c_20
      refine lv_iconst (v := (-1)) hx hb dX9_laws_35 (by decide) ?_
      have hP9 : va_P E.1 vwCl [(m0, .inr (9, [.int sh, .ref rO, .ref rU, .ref rT, .int rg, .ref rS, .ref rB, .ref rP, .ref rG, .long ab0, .long be0, .int mk, .ref rM, .int md, .ref rN, .ref rL, .ref rZ, .ref rE, .ref rI, .int hc, .ref rA, .ref rX, .int lnn, .ref rV, .ref rW, .int sl, .ref rC, .ref rF, .ref rQ, .ref rK, .ref rR, .ref rD]))] s.heap := hP.sub [0] rfl
      have hD9 : va_D A [(m0, .inr (9, [.int sh, .ref rO, .ref rU, .ref rT, .int rg, .ref rS, .ref rB, .ref rP, .ref rG, .long ab0, .long be0, .int mk, .ref rM, .int md, .ref rN, .ref rL, .ref rZ, .ref rE, .ref rI, .int hc, .ref rA, .ref rX, .int lnn, .ref rV, .ref rW, .int sl, .ref rC, .ref rF, .ref rQ, .ref rK, .ref rR, .ref rD]))] := hD.sub [0] (by decide) rfl
      exact W.iret (v := (-1)) hx hb hr (fun t9 ht9 hW9 => ⟨⟨(-1), (), rfl, rfl, ⟨by rw [ht9]; exact hP9, hD9⟩⟩, hS.F ht9⟩) hS.2.2 dX9_laws_36
    · have c_20 := fWi_1 c_20
      refine lv_iload_n hx hb dX9_laws_23 rfl (lv_at hl 3 rfl) ?_
      refine lv_i2l (v := lu.toInt64) hx hb dX9_laws_24 (rfl) ?_
      refine lv_lconst (v := 1) hx hb dX9_laws_25 (by decide) ?_
      refine lv_ldc2 (v := 4) hx hb hown (hts (.constantLong RX9 219 (4)) (by decide +kernel)) dX9_laws_26 ?_
      refine rSi hE ⟨hx, hb, hml, hown, hts⟩ (c_X9_in l E lu.toInt64 1 4 ) (va_cwS 3 hts gX9_laws_X9_in rfl rfl rfl (by decide +kernel) ⟨Nat.le_of_ble_eq_true rfl, Nat.le_of_ble_eq_true rfl⟩) (hP.sub [] rfl) rfl hl.1 rfl (Nat.le_of_ble_eq_true rfl) dX9_laws_29 ⟨(Nat.zero_le _), (Nat.zero_le _)⟩ ?_
      rw [show fIn lu.toInt64 1 4 = fWi lu 1 4 from fIn_c (rfl) (by decide) (by decide)]
      refine lv_if_ne (tgt := 37) hx hb dX9_laws_32 (by decide) (fun c_32 => by exfalso; have c_32 := fWi_1 c_32; exact hno ⟨c_20, c_8, c_32⟩) (fun c_32 => ?_)
      have c_32 := fWi_0 c_32
      refine lv_iconst (v := (-1)) hx hb dX9_laws_35 (by decide) ?_
      have hP9 : va_P E.1 vwCl [(m0, .inr (9, [.int sh, .ref rO, .ref rU, .ref rT, .int rg, .ref rS, .ref rB, .ref rP, .ref rG, .long ab0, .long be0, .int mk, .ref rM, .int md, .ref rN, .ref rL, .ref rZ, .ref rE, .ref rI, .int hc, .ref rA, .ref rX, .int lnn, .ref rV, .ref rW, .int sl, .ref rC, .ref rF, .ref rQ, .ref rK, .ref rR, .ref rD]))] s.heap := hP.sub [0] rfl
      have hD9 : va_D A [(m0, .inr (9, [.int sh, .ref rO, .ref rU, .ref rT, .int rg, .ref rS, .ref rB, .ref rP, .ref rG, .long ab0, .long be0, .int mk, .ref rM, .int md, .ref rN, .ref rL, .ref rZ, .ref rE, .ref rI, .int hc, .ref rA, .ref rX, .int lnn, .ref rV, .ref rW, .int sl, .ref rC, .ref rF, .ref rQ, .ref rK, .ref rR, .ref rD]))] := hD.sub [0] (by decide) rfl
      exact W.iret (v := (-1)) hx hb hr (fun t9 ht9 hW9 => ⟨⟨(-1), (), rfl, rfl, ⟨by rw [ht9]; exact hP9, hD9⟩⟩, hS.F ht9⟩) hS.2.2 dX9_laws_36
set_option maxHeartbeats 1000000 in
set_option maxRecDepth 100000 in
theorem c_X9_laws_yes (l : Launch) (E : EnvT) (sz : Nat) (m0 : Nat) (sh : Int32) (rO : Nat) (rU : Nat) (rT : Nat) (rg : Int32) (rS : Nat) (rB : Nat) (rP : Nat) (rG : Nat) (ab0 : Int64) (be0 : Int64) (mk : Int32) (rM : Nat) (md : Int32) (rN : Nat) (rL : Nat) (rZ : Nat) (rE : Nat) (rI : Nat) (hc : Int32) (rA : Nat) (rX : Nat) (lnn : Int32) (rV : Nat) (rW : Nat) (sl : Int32) (rC : Nat) (rF : Nat) (rQ : Nat) (rK : Nat) (rR : Nat) (rD : Nat) (Nm : Nat → Int32) (la : Int32) (lb : Int32) (lu : Int32) (hy : (1 ≤ la ∧ la ≤ 1000) ∧ (1 ≤ lb ∧ lb ≤ la) ∧ (1 ≤ lu ∧ lu ≤ 4)) : Met l yX9_laws wsX9_laws ({ frames := 1, cells := 0, slots := 0, locals := 25 }) (va_Pc [.ref m0, .int la, .int lb, .int lu] (PW E [(m0, .inr (9, [.int sh, .ref rO, .ref rU, .ref rT, .int rg, .ref rS, .ref rB, .ref rP, .ref rG, .long ab0, .long be0, .int mk, .ref rM, .int md, .ref rN, .ref rL, .ref rZ, .ref rE, .ref rI, .int hc, .ref rA, .ref rX, .int lnn, .ref rV, .ref rW, .int sl, .ref rC, .ref rF, .ref rQ, .ref rK, .ref rR, .ref rD])), (rQ, .inl (E.2 1, 3, .inl Nm))] sz)) (va_Qi (fun (r : Int32) (uu : Unit) => r = 1) (fun (uu : Unit) t => BW E (va_A [(m0, .inr (9, [.int sh, .ref rO, .ref rU, .ref rT, .int rg, .ref rS, .ref rB, .ref rP, .ref rG, .long ab0, .long be0, .int mk, .ref rM, .int md, .ref rN, .ref rL, .ref rZ, .ref rE, .ref rI, .int hc, .ref rA, .ref rX, .int lnn, .ref rV, .ref rW, .int sl, .ref rC, .ref rF, .ref rQ, .ref rK, .ref rR, .ref rD])), (rQ, .inl (E.2 1, 3, .inl Nm))] sz) [(m0, .inr (9, [.int sh, .ref rO, .ref rU, .ref rT, .int rg, .ref rS, .ref rB, .ref rP, .ref rG, .long ab0, .long be0, .int mk, .ref rM, .int md, .ref rN, .ref rL, .ref rZ, .ref rE, .ref rI, .int hc, .ref rA, .ref rX, .int lnn, .ref rV, .ref rW, .int sl, .ref rC, .ref rF, .ref rQ, .ref rK, .ref rR, .ref rD])), (rQ, .inl (E.2 1, 3, .inl (upd (upd (upd Nm 0 la) 1 lb) 2 lu)))] t) (va_A [(m0, .inr (9, [.int sh, .ref rO, .ref rU, .ref rT, .int rg, .ref rS, .ref rB, .ref rP, .ref rG, .long ab0, .long be0, .int mk, .ref rM, .int md, .ref rN, .ref rL, .ref rZ, .ref rE, .ref rI, .int hc, .ref rA, .ref rX, .int lnn, .ref rV, .ref rW, .int sl, .ref rC, .ref rF, .ref rQ, .ref rK, .ref rR, .ref rD])), (rQ, .inl (E.2 1, 3, .inl Nm))] sz)) 0 0 (va_A [(m0, .inr (9, [.int sh, .ref rO, .ref rU, .ref rT, .int rg, .ref rS, .ref rB, .ref rP, .ref rG, .long ab0, .long be0, .int mk, .ref rM, .int md, .ref rN, .ref rL, .ref rZ, .ref rE, .ref rI, .int hc, .ref rA, .ref rX, .int lnn, .ref rV, .ref rW, .int sl, .ref rC, .ref rF, .ref rQ, .ref rK, .ref rR, .ref rD])), (rQ, .inl (E.2 1, 3, .inl Nm))] sz) := by
  refine Met.ofW (cc := cX9_laws) (maxL := 4) (ret := (some .int)) (by decide +kernel) rfl ?_
  intro p e s m args below meth c s₁ B hml hv
  obtain ⟨rfl, hsz, hP, hE, hD0⟩ := hv
  have hx := B.exec
  have hb := B.bytes
  have hr := B.returns
  have hts := atoms_spec (ws := wsX9_laws) B.pre
  have hown : s.vm.findClass RX9 = some m.cls := findClass_of_methodNamed B.named
  have hlocks := B.notSynchronized
  have hK := hE.1
  have hNN := hE.2.1
  have hinX9 : ∀ w ∈ wsX90, w ∈ wsX9_laws := fun w h => List.mem_cons_of_mem _ (List.mem_append_right _ h)
  subst hsz
  have hD := hD0.self (sz := s.heap.size)
  generalize hAe : va_A [(m0, .inr (9, [.int sh, .ref rO, .ref rU, .ref rT, .int rg, .ref rS, .ref rB, .ref rP, .ref rG, .long ab0, .long be0, .int mk, .ref rM, .int md, .ref rN, .ref rL, .ref rZ, .ref rE, .ref rI, .int hc, .ref rA, .ref rX, .int lnn, .ref rV, .ref rW, .int sl, .ref rC, .ref rF, .ref rQ, .ref rK, .ref rR, .ref rD])), (rQ, .inl (E.2 1, 3, .inl Nm))] s.heap.size = A at hD ⊢
  have hA : ∀ q : Nat, s.heap.size ≤ q → A q := fun q h => by rw [← hAe]; exact Or.inr h
  have hS : va_S A s.heap s.heap [] := va_S.rf
  have hl := lv_entry ([.ref m0, .int la, .int lb, .int lu]) (n := 4) (Nat.le_of_ble_eq_true rfl)
  rw [lg_entry_eq]
  generalize (lg_sl ([.ref m0, .int la, .int lb, .int lu]) ++ List.replicate (4 - (lg_sl ([.ref m0, .int la, .int lb, .int lu])).length) Slot.unset).toArray = ls at hl ⊢
  have hl : lv_has ls 4 [(0, .ref m0), (1, .int la), (2, .int lb), (3, .int lu)] := hl
  refine lv_iload_n hx hb dX9_laws_0 rfl (lv_at hl 2 rfl) ?_
  refine lv_i2l (v := lb.toInt64) hx hb dX9_laws_1 (rfl) ?_
  refine lv_lconst (v := 1) hx hb dX9_laws_2 (by decide) ?_
  refine lv_iload_n hx hb dX9_laws_3 rfl (lv_at hl 1 rfl) ?_
  refine lv_i2l (v := la.toInt64) hx hb dX9_laws_4 (rfl) ?_
  refine rSi hE ⟨hx, hb, hml, hown, hts⟩ (c_X9_in l E lb.toInt64 1 la.toInt64 ) (va_cwS 3 hts gX9_laws_X9_in rfl rfl rfl (by decide +kernel) ⟨Nat.le_of_ble_eq_true rfl, Nat.le_of_ble_eq_true rfl⟩) (hP.sub [] rfl) rfl hl.1 rfl (Nat.le_of_ble_eq_true rfl) dX9_laws_5 ⟨(Nat.zero_le _), (Nat.zero_le _)⟩ ?_
  rw [show fIn lb.toInt64 1 la.toInt64 = fWi lb 1 la from fIn_c (rfl) (by decide) (rfl)]
  refine lv_if_eq (tgt := 35) hx hb dX9_laws_8 (by decide) (fun c_8 => by exfalso; have c_8 := fWi_0 c_8; exact c_8 hy.2.1) (fun c_8 => ?_)
  have c_8 := fWi_1 c_8
  refine lv_iload_n hx hb dX9_laws_11 rfl (lv_at hl 1 rfl) ?_
  refine lv_i2l (v := la.toInt64) hx hb dX9_laws_12 (rfl) ?_
  refine lv_lconst (v := 1) hx hb dX9_laws_13 (by decide) ?_
  refine lv_ldc2 (v := 1000) hx hb hown (hts (.constantLong RX9 165 (1000)) (by decide +kernel)) dX9_laws_14 ?_
  refine rSi hE ⟨hx, hb, hml, hown, hts⟩ (c_X9_in l E la.toInt64 1 1000 ) (va_cwS 3 hts gX9_laws_X9_in rfl rfl rfl (by decide +kernel) ⟨Nat.le_of_ble_eq_true rfl, Nat.le_of_ble_eq_true rfl⟩) (hP.sub [] rfl) rfl hl.1 rfl (Nat.le_of_ble_eq_true rfl) dX9_laws_17 ⟨(Nat.zero_le _), (Nat.zero_le _)⟩ ?_
  rw [show fIn la.toInt64 1 1000 = fWi la 1 1000 from fIn_c (rfl) (by decide) (by decide)]
  refine lv_if_eq (tgt := 35) hx hb dX9_laws_20 (by decide) (fun c_20 => by exfalso; have c_20 := fWi_0 c_20; exact c_20 hy.1) (fun c_20 => ?_)
  have c_20 := fWi_1 c_20
  refine lv_iload_n hx hb dX9_laws_23 rfl (lv_at hl 3 rfl) ?_
  refine lv_i2l (v := lu.toInt64) hx hb dX9_laws_24 (rfl) ?_
  refine lv_lconst (v := 1) hx hb dX9_laws_25 (by decide) ?_
  refine lv_ldc2 (v := 4) hx hb hown (hts (.constantLong RX9 219 (4)) (by decide +kernel)) dX9_laws_26 ?_
  refine rSi hE ⟨hx, hb, hml, hown, hts⟩ (c_X9_in l E lu.toInt64 1 4 ) (va_cwS 3 hts gX9_laws_X9_in rfl rfl rfl (by decide +kernel) ⟨Nat.le_of_ble_eq_true rfl, Nat.le_of_ble_eq_true rfl⟩) (hP.sub [] rfl) rfl hl.1 rfl (Nat.le_of_ble_eq_true rfl) dX9_laws_29 ⟨(Nat.zero_le _), (Nat.zero_le _)⟩ ?_
  rw [show fIn lu.toInt64 1 4 = fWi lu 1 4 from fIn_c (rfl) (by decide) (by decide)]
  refine lv_if_ne (tgt := 37) hx hb dX9_laws_32 (by decide) (fun c_32 => ?_) (fun c_32 => by exfalso; have c_32 := fWi_0 c_32; exact c_32 hy.2.2)
  have c_32 := fWi_1 c_32
  refine lv_aload_n hx hb dX9_laws_37 rfl (lv_at hl 0 rfl) ?_
  refine va_get (D := E.1) (ci := 9) (v := .ref rQ) (C := RX9) (T := TX9) (N := 32) hx hb hts hinX9 hown hK hP 0 rfl rfl 28 (by decide) (hts (.fieldLink RX9 76 "WornRingsModel" "numbers" "[I") (by decide +kernel)) (fun _ h9 => h9) rfl dX9_laws_38 ?_
  refine lv_iconst (v := 0) hx hb dX9_laws_41 (by decide) ?_
  refine lv_iload_n hx hb dX9_laws_42 rfl (lv_at hl 1 rfl) ?_
  refine va_iast hx hb hK hP hD hS 1 1 rfl rfl (by unfold vp_in; decide) dX9_laws_43 (fun H locs hP hD hS => ?_)
  have hP : va_P E.1 vwCl [(m0, .inr (9, [.int sh, .ref rO, .ref rU, .ref rT, .int rg, .ref rS, .ref rB, .ref rP, .ref rG, .long ab0, .long be0, .int mk, .ref rM, .int md, .ref rN, .ref rL, .ref rZ, .ref rE, .ref rI, .int hc, .ref rA, .ref rX, .int lnn, .ref rV, .ref rW, .int sl, .ref rC, .ref rF, .ref rQ, .ref rK, .ref rR, .ref rD])), (rQ, .inl (E.2 1, 3, .inl (upd Nm 0 la)))] H := hP
  have hD : va_D A [(m0, .inr (9, [.int sh, .ref rO, .ref rU, .ref rT, .int rg, .ref rS, .ref rB, .ref rP, .ref rG, .long ab0, .long be0, .int mk, .ref rM, .int md, .ref rN, .ref rL, .ref rZ, .ref rE, .ref rI, .int hc, .ref rA, .ref rX, .int lnn, .ref rV, .ref rW, .int sl, .ref rC, .ref rF, .ref rQ, .ref rK, .ref rR, .ref rD])), (rQ, .inl (E.2 1, 3, .inl (upd Nm 0 la)))] := hD
  refine lv_aload_n hx hb dX9_laws_44 rfl (lv_at hl 0 rfl) ?_
  refine va_get (D := E.1) (ci := 9) (v := .ref rQ) (C := RX9) (T := TX9) (N := 32) hx hb hts hinX9 hown hK hP 0 rfl rfl 28 (by decide) (hts (.fieldLink RX9 76 "WornRingsModel" "numbers" "[I") (by decide +kernel)) (fun _ h9 => h9) rfl dX9_laws_45 ?_
  refine lv_iconst (v := 1) hx hb dX9_laws_48 (by decide) ?_
  refine lv_iload_n hx hb dX9_laws_49 rfl (lv_at hl 2 rfl) ?_
  refine va_iast hx hb hK hP hD hS 1 1 rfl rfl (by unfold vp_in; decide) dX9_laws_50 (fun H locs hP hD hS => ?_)
  have hP : va_P E.1 vwCl [(m0, .inr (9, [.int sh, .ref rO, .ref rU, .ref rT, .int rg, .ref rS, .ref rB, .ref rP, .ref rG, .long ab0, .long be0, .int mk, .ref rM, .int md, .ref rN, .ref rL, .ref rZ, .ref rE, .ref rI, .int hc, .ref rA, .ref rX, .int lnn, .ref rV, .ref rW, .int sl, .ref rC, .ref rF, .ref rQ, .ref rK, .ref rR, .ref rD])), (rQ, .inl (E.2 1, 3, .inl (upd (upd Nm 0 la) 1 lb)))] H := hP
  have hD : va_D A [(m0, .inr (9, [.int sh, .ref rO, .ref rU, .ref rT, .int rg, .ref rS, .ref rB, .ref rP, .ref rG, .long ab0, .long be0, .int mk, .ref rM, .int md, .ref rN, .ref rL, .ref rZ, .ref rE, .ref rI, .int hc, .ref rA, .ref rX, .int lnn, .ref rV, .ref rW, .int sl, .ref rC, .ref rF, .ref rQ, .ref rK, .ref rR, .ref rD])), (rQ, .inl (E.2 1, 3, .inl (upd (upd Nm 0 la) 1 lb)))] := hD
  refine lv_aload_n hx hb dX9_laws_51 rfl (lv_at hl 0 rfl) ?_
  refine va_get (D := E.1) (ci := 9) (v := .ref rQ) (C := RX9) (T := TX9) (N := 32) hx hb hts hinX9 hown hK hP 0 rfl rfl 28 (by decide) (hts (.fieldLink RX9 76 "WornRingsModel" "numbers" "[I") (by decide +kernel)) (fun _ h9 => h9) rfl dX9_laws_52 ?_
  refine lv_iconst (v := 2) hx hb dX9_laws_55 (by decide) ?_
  refine lv_iload_n hx hb dX9_laws_56 rfl (lv_at hl 3 rfl) ?_
  refine va_iast hx hb hK hP hD hS 1 1 rfl rfl (by unfold vp_in; decide) dX9_laws_57 (fun H locs hP hD hS => ?_)
  have hP : va_P E.1 vwCl [(m0, .inr (9, [.int sh, .ref rO, .ref rU, .ref rT, .int rg, .ref rS, .ref rB, .ref rP, .ref rG, .long ab0, .long be0, .int mk, .ref rM, .int md, .ref rN, .ref rL, .ref rZ, .ref rE, .ref rI, .int hc, .ref rA, .ref rX, .int lnn, .ref rV, .ref rW, .int sl, .ref rC, .ref rF, .ref rQ, .ref rK, .ref rR, .ref rD])), (rQ, .inl (E.2 1, 3, .inl (upd (upd (upd Nm 0 la) 1 lb) 2 lu)))] H := hP
  have hD : va_D A [(m0, .inr (9, [.int sh, .ref rO, .ref rU, .ref rT, .int rg, .ref rS, .ref rB, .ref rP, .ref rG, .long ab0, .long be0, .int mk, .ref rM, .int md, .ref rN, .ref rL, .ref rZ, .ref rE, .ref rI, .int hc, .ref rA, .ref rX, .int lnn, .ref rV, .ref rW, .int sl, .ref rC, .ref rF, .ref rQ, .ref rK, .ref rR, .ref rD])), (rQ, .inl (E.2 1, 3, .inl (upd (upd (upd Nm 0 la) 1 lb) 2 lu)))] := hD
  refine lv_iconst (v := 1) hx hb dX9_laws_58 (by decide) ?_
  have hP9 : va_P E.1 vwCl [(m0, .inr (9, [.int sh, .ref rO, .ref rU, .ref rT, .int rg, .ref rS, .ref rB, .ref rP, .ref rG, .long ab0, .long be0, .int mk, .ref rM, .int md, .ref rN, .ref rL, .ref rZ, .ref rE, .ref rI, .int hc, .ref rA, .ref rX, .int lnn, .ref rV, .ref rW, .int sl, .ref rC, .ref rF, .ref rQ, .ref rK, .ref rR, .ref rD])), (rQ, .inl (E.2 1, 3, .inl (upd (upd (upd Nm 0 la) 1 lb) 2 lu)))] H := hP.sub [0, 1] rfl
  have hD9 : va_D A [(m0, .inr (9, [.int sh, .ref rO, .ref rU, .ref rT, .int rg, .ref rS, .ref rB, .ref rP, .ref rG, .long ab0, .long be0, .int mk, .ref rM, .int md, .ref rN, .ref rL, .ref rZ, .ref rE, .ref rI, .int hc, .ref rA, .ref rX, .int lnn, .ref rV, .ref rW, .int sl, .ref rC, .ref rF, .ref rQ, .ref rK, .ref rR, .ref rD])), (rQ, .inl (E.2 1, 3, .inl (upd (upd (upd Nm 0 la) 1 lb) 2 lu)))] := hD.sub [0, 1] (by decide) rfl
  exact W.iret (v := 1) hx hb hr (fun t9 ht9 hW9 => ⟨⟨1, (), rfl, rfl, ⟨by rw [ht9]; exact hP9, hD9⟩⟩, hS.F ht9⟩) hS.2.2 dX9_laws_59
set_option maxHeartbeats 1000000 in
set_option maxRecDepth 100000 in
theorem c_X9_isLoad (l : Launch) (E : EnvT) (v : Int32)  : Met l yX9_isLoad wsX9_isLoad ({ frames := 1, cells := 0, slots := 0, locals := 25 }) (va_Pc [.int v] (PR E [])) (vp_Si (fun r => r = fWi v 0 3)) 0 0 (fun _ => False) := by
  refine Met.ofW (cc := cX9_isLoad) (maxL := 1) (ret := (some .boolean)) (by decide +kernel) rfl ?_
  intro p e s m args below meth c s₁ B hml hv
  obtain ⟨rfl, hP, hE⟩ := hv
  have hx := B.exec
  have hb := B.bytes
  have hr := B.returns
  have hts := atoms_spec (ws := wsX9_isLoad) B.pre
  have hown : s.vm.findClass RX9 = some m.cls := findClass_of_methodNamed B.named
  have hlocks := B.notSynchronized
  have hK := hE.1
  have hNN := hE.2.1
  have hl := lv_entry ([.int v]) (n := 1) (Nat.le_of_ble_eq_true rfl)
  rw [lg_entry_eq]
  generalize (lg_sl ([.int v]) ++ List.replicate (1 - (lg_sl ([.int v])).length) Slot.unset).toArray = ls at hl ⊢
  have hl : lv_has ls 1 [(0, .int v)] := hl
  refine lv_iload_n hx hb dX9_isLoad_0 rfl (lv_at hl 0 rfl) ?_
  refine lv_i2l (v := v.toInt64) hx hb dX9_isLoad_1 (rfl) ?_
  refine lv_lconst (v := 0) hx hb dX9_isLoad_2 (by decide) ?_
  refine lv_ldc2 (v := 3) hx hb hown (hts (.constantLong RX9 108 (3)) (by decide +kernel)) dX9_isLoad_3 ?_
  refine rSi hE ⟨hx, hb, hml, hown, hts⟩ (c_X9_in l E v.toInt64 0 3 ) (va_cwS 3 hts gX9_isLoad_X9_in rfl rfl rfl (by decide +kernel) ⟨Nat.le_of_ble_eq_true rfl, Nat.le_of_ble_eq_true rfl⟩) (hP.sub [] rfl) rfl hl.1 rfl (Nat.le_of_ble_eq_true rfl) dX9_isLoad_6 ⟨(Nat.zero_le _), (Nat.zero_le _)⟩ ?_
  rw [show fIn v.toInt64 0 3 = fWi v 0 3 from fIn_c (rfl) (by decide) (by decide)]
  exact W.zret (v := fWi v 0 3) hx hb hr (fWi_nar _ _ _) (fun t9 ht9 hW9 => ⟨fWi v 0 3, rfl, rfl, ht9⟩) (fun _ h => absurd h List.not_mem_nil) dX9_isLoad_9
set_option maxHeartbeats 1000000 in
set_option maxRecDepth 100000 in
theorem c_X9_middle (l : Launch) (E : EnvT) (m0 : Nat) (sh : Int32) (rO : Nat) (rU : Nat) (rT : Nat) (rg : Int32) (rS : Nat) (rB : Nat) (rP : Nat) (rG : Nat) (ab0 : Int64) (be0 : Int64) (mk : Int32) (rM : Nat) (md : Int32) (rN : Nat) (rL : Nat) (rZ : Nat) (rE : Nat) (rI : Nat) (hc : Int32) (rA : Nat) (rX : Nat) (lnn : Int32) (rV : Nat) (rW : Nat) (sl : Int32) (rC : Nat) (rF : Nat) (rQ : Nat) (rK : Nat) (rR : Nat) (rD : Nat) (Rd : Nat → Int32) (kk : Nat) (hk4 : kk < 4) : Met l yX9_middle wsX9_middle ({ frames := 0, cells := 0, slots := 0, locals := 0 }) (va_Pc [.ref m0, .int (nI kk)] (PR E [(m0, .inr (9, [.int sh, .ref rO, .ref rU, .ref rT, .int rg, .ref rS, .ref rB, .ref rP, .ref rG, .long ab0, .long be0, .int mk, .ref rM, .int md, .ref rN, .ref rL, .ref rZ, .ref rE, .ref rI, .int hc, .ref rA, .ref rX, .int lnn, .ref rV, .ref rW, .int sl, .ref rC, .ref rF, .ref rQ, .ref rK, .ref rR, .ref rD])), (rR, .inl (E.2 1, 800, .inl Rd))])) (vp_Si (fun r => r = fMd (fun j => Rd (200 * kk + j)))) 0 0 (fun _ => False) := by
  refine Met.ofW (cc := cX9_middle) (maxL := 7) (ret := (some .int)) (by decide +kernel) rfl ?_
  intro p e s m args below meth c s₁ B hml hv
  obtain ⟨rfl, hP, hE⟩ := hv
  have hx := B.exec
  have hb := B.bytes
  have hr := B.returns
  have hts := atoms_spec (ws := wsX9_middle) B.pre
  have hown : s.vm.findClass RX9 = some m.cls := findClass_of_methodNamed B.named
  have hlocks := B.notSynchronized
  have hK := hE.1
  have hNN := hE.2.1
  have hinX9 : ∀ w ∈ wsX90, w ∈ wsX9_middle := fun w h => List.mem_cons_of_mem _ (List.mem_append_right _ h)
  have hl := lv_entry ([.ref m0, .int (nI kk)]) (n := 7) (Nat.le_of_ble_eq_true rfl)
  rw [lg_entry_eq]
  generalize (lg_sl ([.ref m0, .int (nI kk)]) ++ List.replicate (7 - (lg_sl ([.ref m0, .int (nI kk)])).length) Slot.unset).toArray = ls at hl ⊢
  have hl : lv_has ls 7 [(0, .ref m0), (1, .int (nI kk))] := hl
  refine lv_iconst (v := 0) hx hb dX9_middle_0 (by decide) ?_
  refine lv_istore_n (lv' := [(2, .int 0), (0, .ref m0), (1, .int (nI kk))]) hx hb dX9_middle_1 rfl hl (by decide) rfl (fun ls hl => ?_)
  refine (fun (lp2 : ∀ (n9 : Nat) (k : Nat) (ls : Array Slot), (5 - k) < n9 → (k ≤ 5) → (mF (fun j => Rd (200 * kk + j)) (5 - k) k = fMd (fun j => Rd (200 * kk + j))) → lv_has ls 7 [(0, .ref m0), (1, .int (nI kk)), (2, .int (nI k))] → W p l e _ s m _ below meth c s.heap [] _ _ _ (F0 m 2 ls [])) => lp2 (6) 0 _ (by omega) (by omega) (rfl) (lv_sub hl [1, 2, 0] rfl)) ?_
  intro n2
  induction n2 with
  | zero => intro k ls h0; exact absurd (by assumption) (Nat.not_lt_zero _)
  | succ n2 ih2 =>
    intro k ls hmu2 hk hm hl
    have hc5 := cnt_le (pRk (fun j => Rd (200 * kk + j)) k) 5
    refine lv_iload_n hx hb dX9_middle_2 rfl (lv_at hl 2 rfl) ?_
    refine lv_iconst (v := 5) hx hb dX9_middle_3 (by decide) ?_
    refine lv_icmp_ge (tgt := 95) hx hb dX9_middle_4 (by decide) (fun c_4 => ?_) (fun c_4 => ?_)
    · have c_4 : 5 ≤ k := (nI_leI (a := 5) (b := k) (by omega) (by omega)).mp c_4
      refine lv_bipush (v := (-4)) hx hb dX9_middle_95 (by decide) ?_
      exact W.iret (v := (-4)) hx hb hr (fun t9 ht9 hW9 => ⟨(-4), rfl, by rw [← hm, show 5 - k = 0 by omega]; rfl, ht9⟩) (fun _ h => absurd h List.not_mem_nil) dX9_middle_97
    · have c_4 : ¬ 5 ≤ k := fun h9 => c_4 ((nI_leI (a := 5) (b := k) (by omega) (by omega)).mpr h9)
      refine lv_aload_n hx hb dX9_middle_7 rfl (lv_at hl 0 rfl) ?_
      refine va_get (D := E.1) (ci := 9) (v := .ref rR) (C := RX9) (T := TX9) (N := 32) hx hb hts hinX9 hown hK hP 0 rfl rfl 30 (by decide) (hts (.fieldLink RX9 82 "WornRingsModel" "readings" "[I") (by decide +kernel)) (fun _ h9 => h9) rfl dX9_middle_8 ?_
      refine lv_sipush (v := 200) hx hb dX9_middle_11 (by decide) ?_
      refine lv_iload_n hx hb dX9_middle_14 rfl (lv_at hl 1 rfl) ?_
      refine lv_imul hx hb dX9_middle_15 ?_
      rw [show ((200 : Int32) * (nI kk) : Int32) = nI (200 * kk) from pk_mul 200 kk]
      refine lv_iload_n hx hb dX9_middle_16 rfl (lv_at hl 2 rfl) ?_
      refine lv_iadd hx hb dX9_middle_17 ?_
      rw [show ((nI (200 * kk)) + (nI k) : Int32) = nI ((200 * kk) + k) from nI_add (200 * kk) k]
      refine va_iald hx hb hK hP 1 1 rfl rfl (vp_in_nI (by omega) (by omega)) dX9_middle_18 ?_
      rw [nI_clamp (n := (200 * kk) + k) (by omega)]
      refine lv_istore_n (lv' := [(3, .int (Rd ((200 * kk) + k))), (0, .ref m0), (1, .int (nI kk)), (2, .int (nI k))]) hx hb dX9_middle_19 rfl hl (by decide) rfl (fun ls hl => ?_)
      refine lv_iconst (v := 0) hx hb dX9_middle_20 (by decide) ?_
      refine lv_istore (lv' := [(4, .int 0), (3, .int (Rd ((200 * kk) + k))), (0, .ref m0), (1, .int (nI kk)), (2, .int (nI k))]) hx hb dX9_middle_21 hl (by decide) rfl (fun ls hl => ?_)
      refine lv_iconst (v := 0) hx hb dX9_middle_23 (by decide) ?_
      refine lv_istore (lv' := [(5, .int 0), (4, .int 0), (3, .int (Rd ((200 * kk) + k))), (0, .ref m0), (1, .int (nI kk)), (2, .int (nI k))]) hx hb dX9_middle_24 hl (by decide) rfl (fun ls hl => ?_)
      refine (fun (lp26 : ∀ (n9 : Nat) (i : Nat) (ls : Array Slot), (5 - i) < n9 → (i ≤ 5) → lv_has ls 7 [(0, .ref m0), (1, .int (nI kk)), (2, .int (nI k)), (3, .int (Rd (200 * kk + k))), (4, .int (nI (cnt (pRk (fun j => Rd (200 * kk + j)) k)  i))), (5, .int (nI i))] → W p l e _ s m _ below meth c s.heap [] _ _ _ (F0 m 26 ls [])) => lp26 (6) 0 _ (by omega) (by omega) (lv_sub hl [3, 4, 5, 2, 1, 0] rfl)) ?_
      intro n26
      induction n26 with
      | zero => intro i ls h0; exact absurd (by assumption) (Nat.not_lt_zero _)
      | succ n26 ih26 =>
        intro i ls hmu26 hi hl
        have hci := cnt_le (pRk (fun j => Rd (200 * kk + j)) k) i
        refine lv_iload hx hb dX9_middle_26 (lv_at hl 5 rfl) ?_
        refine lv_iconst (v := 5) hx hb dX9_middle_28 (by decide) ?_
        refine lv_icmp_ge (tgt := 81) hx hb dX9_middle_29 (by decide) (fun c_29 => ?_) (fun c_29 => ?_)
        · have c_29 : 5 ≤ i := (nI_leI (a := 5) (b := i) (by omega) (by omega)).mp c_29
          refine lv_iload hx hb dX9_middle_81 (lv_at hl 4 rfl) ?_
          refine lv_iconst (v := 2) hx hb dX9_middle_83 (by decide) ?_
          refine lv_icmp_ne (tgt := 89) hx hb dX9_middle_84 (by decide) (fun c_84 => ?_) (fun c_84 => ?_)
          · have c_84 : ¬ (cnt (pRk (fun j => Rd (200 * kk + j)) k)  i) = 2 := fun h9 => c_84 ((nI_eq (a := cnt (pRk (fun j => Rd (200 * kk + j)) k)  i) (b := 2) (by omega) (by omega)).mpr h9)
            refine lv_iinc (v := nI (k + 1)) (lv' := [(2, .int (nI (k + 1))), (0, .ref m0), (1, .int (nI kk)), (3, .int (Rd (200 * kk + k))), (4, .int (nI (cnt (pRk (fun j => Rd (200 * kk + j)) k)  i))), (5, .int (nI i))]) hx hb dX9_middle_89 hl (k := 2) rfl (nI_add k 1) (by decide) rfl (fun ls hl => ?_)
            refine lv_goto (tgt := 2) hx hb dX9_middle_92 (by decide) ?_
            exact ih2 (k + 1) _ (by omega) (by omega) (by rw [← hm, show 5 - k = (5 - (k + 1)) + 1 by omega, mF, if_neg (by rw [show 5 = i by omega]; exact c_84)]) (lv_sub hl [1, 2, 0] rfl)
          · have c_84 : (cnt (pRk (fun j => Rd (200 * kk + j)) k)  i) = 2 := (nI_eq (a := cnt (pRk (fun j => Rd (200 * kk + j)) k)  i) (b := 2) (by omega) (by omega)).mp c_84
            refine lv_iload_n hx hb dX9_middle_87 rfl (lv_at hl 3 rfl) ?_
            exact W.iret (v := Rd (200 * kk + k)) hx hb hr (fun t9 ht9 hW9 => ⟨Rd (200 * kk + k), rfl, by rw [← hm, show 5 - k = (4 - k) + 1 by omega, mF, if_pos (by rw [show 5 = i by omega]; exact c_84)], ht9⟩) (fun _ h => absurd h List.not_mem_nil) dX9_middle_88
        · have c_29 : ¬ 5 ≤ i := fun h9 => c_29 ((nI_leI (a := 5) (b := i) (by omega) (by omega)).mpr h9)
          refine lv_aload_n hx hb dX9_middle_32 rfl (lv_at hl 0 rfl) ?_
          refine va_get (D := E.1) (ci := 9) (v := .ref rR) (C := RX9) (T := TX9) (N := 32) hx hb hts hinX9 hown hK hP 0 rfl rfl 30 (by decide) (hts (.fieldLink RX9 82 "WornRingsModel" "readings" "[I") (by decide +kernel)) (fun _ h9 => h9) rfl dX9_middle_33 ?_
          refine lv_sipush (v := 200) hx hb dX9_middle_36 (by decide) ?_
          refine lv_iload_n hx hb dX9_middle_39 rfl (lv_at hl 1 rfl) ?_
          refine lv_imul hx hb dX9_middle_40 ?_
          rw [show ((200 : Int32) * (nI kk) : Int32) = nI (200 * kk) from pk_mul 200 kk]
          refine lv_iload hx hb dX9_middle_41 (lv_at hl 5 rfl) ?_
          refine lv_iadd hx hb dX9_middle_43 ?_
          rw [show ((nI (200 * kk)) + (nI i) : Int32) = nI ((200 * kk) + i) from nI_add (200 * kk) i]
          refine va_iald hx hb hK hP 1 1 rfl rfl (vp_in_nI (by omega) (by omega)) dX9_middle_44 ?_
          rw [nI_clamp (n := (200 * kk) + i) (by omega)]
          refine lv_istore (lv' := [(6, .int (Rd ((200 * kk) + i))), (0, .ref m0), (1, .int (nI kk)), (2, .int (nI k)), (3, .int (Rd (200 * kk + k))), (4, .int (nI (cnt (pRk (fun j => Rd (200 * kk + j)) k)  i))), (5, .int (nI i))]) hx hb dX9_middle_45 hl (by decide) rfl (fun ls hl => ?_)
          refine lv_iload hx hb dX9_middle_47 (lv_at hl 5 rfl) ?_
          refine lv_iload hx hb dX9_middle_49 (lv_at hl 0 rfl) ?_
          refine lv_iload_n hx hb dX9_middle_51 rfl (lv_at hl 4 rfl) ?_
          refine lv_icmp_lt (tgt := 67) hx hb dX9_middle_52 (by decide) (fun c_52 => ?_) (fun c_52 => ?_)
          · refine lv_iconst (v := 1) hx hb dX9_middle_67 (by decide) ?_
            refine lv_goto (tgt := 72) hx hb dX9_middle_68 (by decide) ?_
            refine lv_iadd hx hb dX9_middle_72 ?_
            rw [show ((nI (cnt (pRk (fun j => Rd (200 * kk + j)) k)  i)) + (1 : Int32) : Int32) = nI ((cnt (pRk (fun j => Rd (200 * kk + j)) k)  i) + 1) from nI_add (cnt (pRk (fun j => Rd (200 * kk + j)) k)  i) 1]
            refine lv_istore (lv' := [(4, .int (nI ((cnt (pRk (fun j => Rd (200 * kk + j)) k)  i) + 1))), (6, .int (Rd ((200 * kk) + i))), (0, .ref m0), (1, .int (nI kk)), (2, .int (nI k)), (3, .int (Rd (200 * kk + k))), (5, .int (nI i))]) hx hb dX9_middle_73 hl (by decide) rfl (fun ls hl => ?_)
            refine lv_iinc (v := nI (i + 1)) (lv' := [(5, .int (nI (i + 1))), (4, .int (nI ((cnt (pRk (fun j => Rd (200 * kk + j)) k)  i) + 1))), (6, .int (Rd ((200 * kk) + i))), (0, .ref m0), (1, .int (nI kk)), (2, .int (nI k)), (3, .int (Rd (200 * kk + k)))]) hx hb dX9_middle_75 hl (k := 6) rfl (nI_add i 1) (by decide) rfl (fun ls hl => ?_)
            refine lv_goto (tgt := 26) hx hb dX9_middle_78 (by decide) ?_
            have e9_0 : cnt (pRk (fun j => Rd (200 * kk + j)) k)  (i + 1) = (cnt (pRk (fun j => Rd (200 * kk + j)) k)  i) + 1 := by first | exact cnt_t (pRk_t1 c_52) | exact cnt_f (pRk_f1 c_52 c_58) | exact cnt_t (pRk_t2 c_58 (by omega)) | exact cnt_f (pRk_f2 c_52 (by omega))
            exact ih26 (i + 1) _ (by omega) (by omega) (by rw [e9_0]; exact lv_sub hl [3, 4, 5, 6, 1, 0] rfl)
          · refine lv_iload hx hb dX9_middle_55 (lv_at hl 0 rfl) ?_
            refine lv_iload_n hx hb dX9_middle_57 rfl (lv_at hl 4 rfl) ?_
            refine lv_icmp_ne (tgt := 71) hx hb dX9_middle_58 (by decide) (fun c_58 => ?_) (fun c_58 => ?_)
            · refine lv_iconst (v := 0) hx hb dX9_middle_71 (by decide) ?_
              refine lv_iadd hx hb dX9_middle_72 ?_
              rw [show ((nI (cnt (pRk (fun j => Rd (200 * kk + j)) k)  i)) + (0 : Int32) : Int32) = nI ((cnt (pRk (fun j => Rd (200 * kk + j)) k)  i) + 0) from nI_add (cnt (pRk (fun j => Rd (200 * kk + j)) k)  i) 0]
              refine lv_istore (lv' := [(4, .int (nI ((cnt (pRk (fun j => Rd (200 * kk + j)) k)  i) + 0))), (6, .int (Rd ((200 * kk) + i))), (0, .ref m0), (1, .int (nI kk)), (2, .int (nI k)), (3, .int (Rd (200 * kk + k))), (5, .int (nI i))]) hx hb dX9_middle_73 hl (by decide) rfl (fun ls hl => ?_)
              refine lv_iinc (v := nI (i + 1)) (lv' := [(5, .int (nI (i + 1))), (4, .int (nI ((cnt (pRk (fun j => Rd (200 * kk + j)) k)  i) + 0))), (6, .int (Rd ((200 * kk) + i))), (0, .ref m0), (1, .int (nI kk)), (2, .int (nI k)), (3, .int (Rd (200 * kk + k)))]) hx hb dX9_middle_75 hl (k := 6) rfl (nI_add i 1) (by decide) rfl (fun ls hl => ?_)
              refine lv_goto (tgt := 26) hx hb dX9_middle_78 (by decide) ?_
              have e9_0 : cnt (pRk (fun j => Rd (200 * kk + j)) k)  (i + 1) = (cnt (pRk (fun j => Rd (200 * kk + j)) k)  i) + 0 := by first | exact cnt_t (pRk_t1 c_52) | exact cnt_f (pRk_f1 c_52 c_58) | exact cnt_t (pRk_t2 c_58 (by omega)) | exact cnt_f (pRk_f2 c_52 (by omega))
              exact ih26 (i + 1) _ (by omega) (by omega) (by rw [e9_0]; exact lv_sub hl [3, 4, 5, 6, 1, 0] rfl)
            · refine lv_iload hx hb dX9_middle_61 (lv_at hl 6 rfl) ?_
              refine lv_iload_n hx hb dX9_middle_63 rfl (lv_at hl 3 rfl) ?_
              refine lv_icmp_ge (tgt := 71) hx hb dX9_middle_64 (by decide) (fun c_64 => ?_) (fun c_64 => ?_)
              · have c_64 : k ≤ i := (nI_leI (a := k) (b := i) (by omega) (by omega)).mp c_64
                refine lv_iconst (v := 0) hx hb dX9_middle_71 (by decide) ?_
                refine lv_iadd hx hb dX9_middle_72 ?_
                rw [show ((nI (cnt (pRk (fun j => Rd (200 * kk + j)) k)  i)) + (0 : Int32) : Int32) = nI ((cnt (pRk (fun j => Rd (200 * kk + j)) k)  i) + 0) from nI_add (cnt (pRk (fun j => Rd (200 * kk + j)) k)  i) 0]
                refine lv_istore (lv' := [(4, .int (nI ((cnt (pRk (fun j => Rd (200 * kk + j)) k)  i) + 0))), (6, .int (Rd ((200 * kk) + i))), (0, .ref m0), (1, .int (nI kk)), (2, .int (nI k)), (3, .int (Rd (200 * kk + k))), (5, .int (nI i))]) hx hb dX9_middle_73 hl (by decide) rfl (fun ls hl => ?_)
                refine lv_iinc (v := nI (i + 1)) (lv' := [(5, .int (nI (i + 1))), (4, .int (nI ((cnt (pRk (fun j => Rd (200 * kk + j)) k)  i) + 0))), (6, .int (Rd ((200 * kk) + i))), (0, .ref m0), (1, .int (nI kk)), (2, .int (nI k)), (3, .int (Rd (200 * kk + k)))]) hx hb dX9_middle_75 hl (k := 6) rfl (nI_add i 1) (by decide) rfl (fun ls hl => ?_)
                refine lv_goto (tgt := 26) hx hb dX9_middle_78 (by decide) ?_
                have e9_0 : cnt (pRk (fun j => Rd (200 * kk + j)) k)  (i + 1) = (cnt (pRk (fun j => Rd (200 * kk + j)) k)  i) + 0 := by first | exact cnt_t (pRk_t1 c_52) | exact cnt_f (pRk_f1 c_52 c_58) | exact cnt_t (pRk_t2 c_58 (by omega)) | exact cnt_f (pRk_f2 c_52 (by omega))
                exact ih26 (i + 1) _ (by omega) (by omega) (by rw [e9_0]; exact lv_sub hl [3, 4, 5, 6, 1, 0] rfl)
              · have c_64 : ¬ k ≤ i := fun h9 => c_64 ((nI_leI (a := k) (b := i) (by omega) (by omega)).mpr h9)
                refine lv_iconst (v := 1) hx hb dX9_middle_67 (by decide) ?_
                refine lv_goto (tgt := 72) hx hb dX9_middle_68 (by decide) ?_
                refine lv_iadd hx hb dX9_middle_72 ?_
                rw [show ((nI (cnt (pRk (fun j => Rd (200 * kk + j)) k)  i)) + (1 : Int32) : Int32) = nI ((cnt (pRk (fun j => Rd (200 * kk + j)) k)  i) + 1) from nI_add (cnt (pRk (fun j => Rd (200 * kk + j)) k)  i) 1]
                refine lv_istore (lv' := [(4, .int (nI ((cnt (pRk (fun j => Rd (200 * kk + j)) k)  i) + 1))), (6, .int (Rd ((200 * kk) + i))), (0, .ref m0), (1, .int (nI kk)), (2, .int (nI k)), (3, .int (Rd (200 * kk + k))), (5, .int (nI i))]) hx hb dX9_middle_73 hl (by decide) rfl (fun ls hl => ?_)
                refine lv_iinc (v := nI (i + 1)) (lv' := [(5, .int (nI (i + 1))), (4, .int (nI ((cnt (pRk (fun j => Rd (200 * kk + j)) k)  i) + 1))), (6, .int (Rd ((200 * kk) + i))), (0, .ref m0), (1, .int (nI kk)), (2, .int (nI k)), (3, .int (Rd (200 * kk + k)))]) hx hb dX9_middle_75 hl (k := 6) rfl (nI_add i 1) (by decide) rfl (fun ls hl => ?_)
                refine lv_goto (tgt := 26) hx hb dX9_middle_78 (by decide) ?_
                have e9_0 : cnt (pRk (fun j => Rd (200 * kk + j)) k)  (i + 1) = (cnt (pRk (fun j => Rd (200 * kk + j)) k)  i) + 1 := by first | exact cnt_t (pRk_t1 c_52) | exact cnt_f (pRk_f1 c_52 c_58) | exact cnt_t (pRk_t2 c_58 (by omega)) | exact cnt_f (pRk_f2 c_52 (by omega))
                exact ih26 (i + 1) _ (by omega) (by omega) (by rw [e9_0]; exact lv_sub hl [3, 4, 5, 6, 1, 0] rfl)
