/-! the model: loads and sheets -/
def fSh (s l : Int32) : Int32 := if (0 ≤ s ∧ s ≤ 3) ∧ (0 ≤ l ∧ l ≤ 2) then 1 else 0
theorem fSh_0 {s l : Int32} (h : fSh s l = 0) : ¬ ((0 ≤ s ∧ s ≤ 3) ∧ (0 ≤ l ∧ l ≤ 2)) := ite1_0 h
theorem fSh_1 {s l : Int32} (h : ¬ fSh s l = 0) : (0 ≤ s ∧ s ≤ 3) ∧ (0 ≤ l ∧ l ≤ 2) := ite1_1 h
def fPM (l v : Int32) : Int32 := if l = 0 then (v <<< ((24 : Int32) &&& 31)) >>> ((24 : Int32) &&& 31) else v
def fDn (a b : Int64) : Int64 := if ¬ a - a / b * b = 0 ∧ a < 0 then a / b - 1 else a / b
def fHd (It : Nat → Int32) (kk st t : Nat) : Int64 := if t % st = 0 then (It (200 * kk + t / st)).toInt64 else fDn ((It (200 * kk + t / st)).toInt64 * lN (st - t % st) + (It (200 * kk + t / st + 1)).toInt64 * lN (t % st)) (lN st)
/-- rows of 200: row kk is told anew by g, the others stay -/
def rowS (It : Nat → Int32) (kk : Nat) (F : Nat → Int32) (i : Nat) : Nat → Int32 := fun j => if 200 * kk ≤ j ∧ j < 200 * kk + i then F (j - 200 * kk) else It j
theorem rowS_0 (It : Nat → Int32) (kk : Nat) (F : Nat → Int32) : rowS It kk F 0 = It := by funext j; simp only [rowS]; rw [if_neg (by omega)]
theorem rowS_s (It : Nat → Int32) (kk : Nat) (F : Nat → Int32) (i : Nat) : upd (rowS It kk F i) (200 * kk + i) (F i) = rowS It kk F (i + 1) := by
  funext j; by_cases h : j = 200 * kk + i
  · subst h; simp only [rowS]; rw [if_pos (by omega)]; simp [upd]
  · have e : (200 * kk ≤ j ∧ j < 200 * kk + (i + 1)) ↔ (200 * kk ≤ j ∧ j < 200 * kk + i) := by omega
    simp only [rowS, upd, h, if_false, e]

set_option maxHeartbeats 1000000 in
set_option maxRecDepth 100000 in
theorem c_X9_baseline_no (l : Launch) (E : EnvT) (m0 : Nat) (sh : Int32) (rO : Nat) (rU : Nat) (rT : Nat) (rg : Int32) (rS : Nat) (rB : Nat) (rP : Nat) (rG : Nat) (ab0 : Int64) (be0 : Int64) (mk : Int32) (rM : Nat) (md : Int32) (rN : Nat) (rL : Nat) (rZ : Nat) (rE : Nat) (rI : Nat) (hc : Int32) (rA : Nat) (rX : Nat) (lnn : Int32) (rV : Nat) (rW : Nat) (sl : Int32) (rC : Nat) (rF : Nat) (rQ : Nat) (rK : Nat) (rR : Nat) (rD : Nat) (sv : Int32) (hno : ¬ (0 ≤ sv ∧ sv ≤ 3)) : Met l yX9_baseline wsX9_baseline ({ frames := 2, cells := 0, slots := 0, locals := 45 }) (va_Pc [.ref m0, .int sv] (PR E [(m0, .inr (9, [.int sh, .ref rO, .ref rU, .ref rT, .int rg, .ref rS, .ref rB, .ref rP, .ref rG, .long ab0, .long be0, .int mk, .ref rM, .int md, .ref rN, .ref rL, .ref rZ, .ref rE, .ref rI, .int hc, .ref rA, .ref rX, .int lnn, .ref rV, .ref rW, .int sl, .ref rC, .ref rF, .ref rQ, .ref rK, .ref rR, .ref rD]))])) (vp_Si (fun r => r = -1)) 0 0 (fun _ => False) := by
  refine Met.ofW (cc := cX9_baseline) (maxL := 2) (ret := (some .int)) (by decide +kernel) rfl ?_
  intro p e s m args below meth c s₁ B hml hv
  obtain ⟨rfl, hP, hE⟩ := hv
  have hx := B.exec
  have hb := B.bytes
  have hr := B.returns
  have hts := atoms_spec (ws := wsX9_baseline) B.pre
  have hown : s.vm.findClass RX9 = some m.cls := findClass_of_methodNamed B.named
  have hlocks := B.notSynchronized
  have hK := hE.1
  have hNN := hE.2.1
  have hl := lv_entry ([.ref m0, .int sv]) (n := 2) (Nat.le_of_ble_eq_true rfl)
  rw [lg_entry_eq]
  generalize (lg_sl ([.ref m0, .int sv]) ++ List.replicate (2 - (lg_sl ([.ref m0, .int sv])).length) Slot.unset).toArray = ls at hl ⊢
  have hl : lv_has ls 2 [(0, .ref m0), (1, .int sv)] := hl
  refine lv_iload_n hx hb dX9_baseline_0 rfl (lv_at hl 1 rfl) ?_
  refine rSi hE ⟨hx, hb, hml, hown, hts⟩ (c_X9_isLoad l E sv ) (va_cwS 1 hts gX9_baseline_X9_isLoad rfl rfl rfl (by decide +kernel) ⟨Nat.le_of_ble_eq_true rfl, Nat.le_of_ble_eq_true rfl⟩) (hP.sub [] rfl) rfl hl.1 rfl (Nat.le_of_ble_eq_true rfl) dX9_baseline_1 ⟨(Nat.zero_le _), (Nat.zero_le _)⟩ ?_
  refine lv_if_ne (tgt := 11) hx hb dX9_baseline_4 (by decide) (fun c_4 => by exfalso; have c_4 := fWi_1 c_4; exact hno c_4) (fun c_4 => ?_)
  have c_4 := fWi_0 c_4
  refine lv_iconst (v := (-1)) hx hb dX9_baseline_7 (by decide) ?_
  refine lv_goto (tgt := 31) hx hb dX9_baseline_8 (by decide) ?_
  exact W.iret (v := (-1)) hx hb hr (fun t9 ht9 hW9 => ⟨(-1), rfl, rfl, ht9⟩) (fun _ h => absurd h List.not_mem_nil) dX9_baseline_31
set_option maxHeartbeats 1000000 in
set_option maxRecDepth 100000 in
theorem c_X9_warned_no (l : Launch) (E : EnvT) (m0 : Nat) (sh : Int32) (rO : Nat) (rU : Nat) (rT : Nat) (rg : Int32) (rS : Nat) (rB : Nat) (rP : Nat) (rG : Nat) (ab0 : Int64) (be0 : Int64) (mk : Int32) (rM : Nat) (md : Int32) (rN : Nat) (rL : Nat) (rZ : Nat) (rE : Nat) (rI : Nat) (hc : Int32) (rA : Nat) (rX : Nat) (lnn : Int32) (rV : Nat) (rW : Nat) (sl : Int32) (rC : Nat) (rF : Nat) (rQ : Nat) (rK : Nat) (rR : Nat) (rD : Nat) (sv : Int32) (hno : ¬ (0 ≤ sv ∧ sv ≤ 3)) : Met l yX9_warned wsX9_warned ({ frames := 2, cells := 0, slots := 0, locals := 45 }) (va_Pc [.ref m0, .int sv] (PR E [(m0, .inr (9, [.int sh, .ref rO, .ref rU, .ref rT, .int rg, .ref rS, .ref rB, .ref rP, .ref rG, .long ab0, .long be0, .int mk, .ref rM, .int md, .ref rN, .ref rL, .ref rZ, .ref rE, .ref rI, .int hc, .ref rA, .ref rX, .int lnn, .ref rV, .ref rW, .int sl, .ref rC, .ref rF, .ref rQ, .ref rK, .ref rR, .ref rD]))])) (vp_Si (fun r => r = -1)) 0 0 (fun _ => False) := by
  refine Met.ofW (cc := cX9_warned) (maxL := 2) (ret := (some .int)) (by decide +kernel) rfl ?_
  intro p e s m args below meth c s₁ B hml hv
  obtain ⟨rfl, hP, hE⟩ := hv
  have hx := B.exec
  have hb := B.bytes
  have hr := B.returns
  have hts := atoms_spec (ws := wsX9_warned) B.pre
  have hown : s.vm.findClass RX9 = some m.cls := findClass_of_methodNamed B.named
  have hlocks := B.notSynchronized
  have hK := hE.1
  have hNN := hE.2.1
  have hl := lv_entry ([.ref m0, .int sv]) (n := 2) (Nat.le_of_ble_eq_true rfl)
  rw [lg_entry_eq]
  generalize (lg_sl ([.ref m0, .int sv]) ++ List.replicate (2 - (lg_sl ([.ref m0, .int sv])).length) Slot.unset).toArray = ls at hl ⊢
  have hl : lv_has ls 2 [(0, .ref m0), (1, .int sv)] := hl
  refine lv_iload_n hx hb dX9_warned_0 rfl (lv_at hl 1 rfl) ?_
  refine rSi hE ⟨hx, hb, hml, hown, hts⟩ (c_X9_isLoad l E sv ) (va_cwS 1 hts gX9_warned_X9_isLoad rfl rfl rfl (by decide +kernel) ⟨Nat.le_of_ble_eq_true rfl, Nat.le_of_ble_eq_true rfl⟩) (hP.sub [] rfl) rfl hl.1 rfl (Nat.le_of_ble_eq_true rfl) dX9_warned_1 ⟨(Nat.zero_le _), (Nat.zero_le _)⟩ ?_
  refine lv_if_ne (tgt := 11) hx hb dX9_warned_4 (by decide) (fun c_4 => by exfalso; have c_4 := fWi_1 c_4; exact hno c_4) (fun c_4 => ?_)
  have c_4 := fWi_0 c_4
  refine lv_iconst (v := (-1)) hx hb dX9_warned_7 (by decide) ?_
  refine lv_goto (tgt := 25) hx hb dX9_warned_8 (by decide) ?_
  exact W.iret (v := (-1)) hx hb hr (fun t9 ht9 hW9 => ⟨(-1), rfl, rfl, ht9⟩) (fun _ h => absurd h List.not_mem_nil) dX9_warned_25
set_option maxHeartbeats 1000000 in
set_option maxRecDepth 100000 in
theorem c_X9_baseline_yes (l : Launch) (E : EnvT) (m0 : Nat) (sh : Int32) (rO : Nat) (rU : Nat) (rT : Nat) (rg : Int32) (rS : Nat) (rB : Nat) (rP : Nat) (rG : Nat) (ab0 : Int64) (be0 : Int64) (mk : Int32) (rM : Nat) (md : Int32) (rN : Nat) (rL : Nat) (rZ : Nat) (rE : Nat) (rI : Nat) (hc : Int32) (rA : Nat) (rX : Nat) (lnn : Int32) (rV : Nat) (rW : Nat) (sl : Int32) (rC : Nat) (rF : Nat) (rQ : Nat) (rK : Nat) (rR : Nat) (rD : Nat) (Mn : Nat → Nat) (Rd : Nat → Int32) (kk : Nat) (hk4 : kk < 4) (hk2 : Mn kk ≤ 200) : Met l yX9_baseline wsX9_baseline ({ frames := 2, cells := 0, slots := 0, locals := 45 }) (va_Pc [.ref m0, .int (nI kk)] (PR E [(m0, .inr (9, [.int sh, .ref rO, .ref rU, .ref rT, .int rg, .ref rS, .ref rB, .ref rP, .ref rG, .long ab0, .long be0, .int mk, .ref rM, .int md, .ref rN, .ref rL, .ref rZ, .ref rE, .ref rI, .int hc, .ref rA, .ref rX, .int lnn, .ref rV, .ref rW, .int sl, .ref rC, .ref rF, .ref rQ, .ref rK, .ref rR, .ref rD])), (rK, .inl (E.2 1, 4, .inl (nA Mn))), (rR, .inl (E.2 1, 800, .inl Rd))])) (vp_Si (fun r => r = if Mn kk < 5 then -4 else fMd (fun j => Rd (200 * kk + j)))) 0 0 (fun _ => False) := by
  refine Met.ofW (cc := cX9_baseline) (maxL := 2) (ret := (some .int)) (by decide +kernel) rfl ?_
  intro p e s m args below meth c s₁ B hml hv
  obtain ⟨rfl, hP, hE⟩ := hv
  have hx := B.exec
  have hb := B.bytes
  have hr := B.returns
  have hts := atoms_spec (ws := wsX9_baseline) B.pre
  have hown : s.vm.findClass RX9 = some m.cls := findClass_of_methodNamed B.named
  have hlocks := B.notSynchronized
  have hK := hE.1
  have hNN := hE.2.1
  have hinX9 : ∀ w ∈ wsX90, w ∈ wsX9_baseline := fun w h => List.mem_cons_of_mem _ (List.mem_append_right _ h)
  have hl := lv_entry ([.ref m0, .int (nI kk)]) (n := 2) (Nat.le_of_ble_eq_true rfl)
  rw [lg_entry_eq]
  generalize (lg_sl ([.ref m0, .int (nI kk)]) ++ List.replicate (2 - (lg_sl ([.ref m0, .int (nI kk)])).length) Slot.unset).toArray = ls at hl ⊢
  have hl : lv_has ls 2 [(0, .ref m0), (1, .int (nI kk))] := hl
  refine lv_iload_n hx hb dX9_baseline_0 rfl (lv_at hl 1 rfl) ?_
  refine rSi hE ⟨hx, hb, hml, hown, hts⟩ (c_X9_isLoad l E (nI kk) ) (va_cwS 1 hts gX9_baseline_X9_isLoad rfl rfl rfl (by decide +kernel) ⟨Nat.le_of_ble_eq_true rfl, Nat.le_of_ble_eq_true rfl⟩) (hP.sub [] rfl) rfl hl.1 rfl (Nat.le_of_ble_eq_true rfl) dX9_baseline_1 ⟨(Nat.zero_le _), (Nat.zero_le _)⟩ ?_
  refine lv_if_ne (tgt := 11) hx hb dX9_baseline_4 (by decide) (fun c_4 => ?_) (fun c_4 => by exfalso; have c_4 := fWi_0 c_4; exact c_4 ⟨nI_pos' (by omega), nI_le (b := 3) (by omega) (by omega)⟩)
  have c_4 := fWi_1 c_4
  refine lv_aload_n hx hb dX9_baseline_11 rfl (lv_at hl 0 rfl) ?_
  refine va_get (D := E.1) (ci := 9) (v := .ref rK) (C := RX9) (T := TX9) (N := 32) hx hb hts hinX9 hown hK hP 0 rfl rfl 29 (by decide) (hts (.fieldLink RX9 79 "WornRingsModel" "many" "[I") (by decide +kernel)) (fun _ h9 => h9) rfl dX9_baseline_12 ?_
  refine lv_iload_n hx hb dX9_baseline_15 rfl (lv_at hl 1 rfl) ?_
  refine va_iald hx hb hK hP 1 1 rfl rfl (vp_in_nI (by omega) (by omega)) dX9_baseline_16 ?_
  rw [nI_clamp (n := kk) (by omega)]
  refine W.eq (g2 := F0 m 17 ls [.int (nI (Mn kk))]) rfl ?_
  refine lv_iconst (v := 5) hx hb dX9_baseline_17 (by decide) ?_
  refine lv_icmp_ge (tgt := 26) hx hb dX9_baseline_18 (by decide) (fun c_18 => ?_) (fun c_18 => ?_)
  · have c_18 : 5 ≤ (Mn kk) := (nI_leI (a := 5) (b := Mn kk) (by omega) (by omega)).mp c_18
    refine lv_aload_n hx hb dX9_baseline_26 rfl (lv_at hl 0 rfl) ?_
    refine lv_iload_n hx hb dX9_baseline_27 rfl (lv_at hl 1 rfl) ?_
    refine rVi hE ⟨hx, hb, hml, hown, hts⟩ (c_X9_middle l E m0 sh rO rU rT rg rS rB rP rG ab0 be0 mk rM md rN rL rZ rE rI hc rA rX lnn rV rW sl rC rF rQ rK rR rD Rd kk (hk4)) (cwV 1 hts gX9_baseline_X9_middle rfl rfl rfl (by decide +kernel) ⟨Nat.le_of_ble_eq_true rfl, Nat.le_of_ble_eq_true rfl⟩) (hP.sub [0, 2] rfl) 0 9 rfl rfl rfl hl.1 rfl (Nat.le_of_ble_eq_true rfl) dX9_baseline_28 ⟨(Nat.zero_le _), (Nat.zero_le _)⟩ ?_
    exact W.iret (v := fMd (fun j => Rd (200 * kk + j))) hx hb hr (fun t9 ht9 hW9 => ⟨fMd (fun j => Rd (200 * kk + j)), rfl, by first | (rw [if_pos (by omega)]; done) | (rw [if_neg (by omega)]; done), ht9⟩) (fun _ h => absurd h List.not_mem_nil) dX9_baseline_31
  · have c_18 : ¬ 5 ≤ (Mn kk) := fun h9 => c_18 ((nI_leI (a := 5) (b := Mn kk) (by omega) (by omega)).mpr h9)
    refine lv_bipush (v := (-4)) hx hb dX9_baseline_21 (by decide) ?_
    refine lv_goto (tgt := 31) hx hb dX9_baseline_23 (by decide) ?_
    exact W.iret (v := (-4)) hx hb hr (fun t9 ht9 hW9 => ⟨(-4), rfl, by first | (rw [if_pos (by omega)]; done) | (rw [if_neg (by omega)]; done), ht9⟩) (fun _ h => absurd h List.not_mem_nil) dX9_baseline_31
set_option maxHeartbeats 1000000 in
set_option maxRecDepth 100000 in
theorem c_X9_warned_yes (l : Launch) (E : EnvT) (m0 : Nat) (sh : Int32) (rO : Nat) (rU : Nat) (rT : Nat) (rg : Int32) (rS : Nat) (rB : Nat) (rP : Nat) (rG : Nat) (ab0 : Int64) (be0 : Int64) (mk : Int32) (rM : Nat) (md : Int32) (rN : Nat) (rL : Nat) (rZ : Nat) (rE : Nat) (rI : Nat) (hc : Int32) (rA : Nat) (rX : Nat) (lnn : Int32) (rV : Nat) (rW : Nat) (sl : Int32) (rC : Nat) (rF : Nat) (rQ : Nat) (rK : Nat) (rR : Nat) (rD : Nat) (Wd : Nat → Int32) (kk : Nat) (hk4 : kk < 4) : Met l yX9_warned wsX9_warned ({ frames := 2, cells := 0, slots := 0, locals := 45 }) (va_Pc [.ref m0, .int (nI kk)] (PR E [(m0, .inr (9, [.int sh, .ref rO, .ref rU, .ref rT, .int rg, .ref rS, .ref rB, .ref rP, .ref rG, .long ab0, .long be0, .int mk, .ref rM, .int md, .ref rN, .ref rL, .ref rZ, .ref rE, .ref rI, .int hc, .ref rA, .ref rX, .int lnn, .ref rV, .ref rW, .int sl, .ref rC, .ref rF, .ref rQ, .ref rK, .ref rR, .ref rD])), (rD, .inl (E.2 3, 4, .inl Wd))])) (vp_Si (fun r => r = if Wd kk = 0 then 0 else 1)) 0 0 (fun _ => False) := by
  refine Met.ofW (cc := cX9_warned) (maxL := 2) (ret := (some .int)) (by decide +kernel) rfl ?_
  intro p e s m args below meth c s₁ B hml hv
  obtain ⟨rfl, hP, hE⟩ := hv
  have hx := B.exec
  have hb := B.bytes
  have hr := B.returns
  have hts := atoms_spec (ws := wsX9_warned) B.pre
  have hown : s.vm.findClass RX9 = some m.cls := findClass_of_methodNamed B.named
  have hlocks := B.notSynchronized
  have hK := hE.1
  have hNN := hE.2.1
  have hinX9 : ∀ w ∈ wsX90, w ∈ wsX9_warned := fun w h => List.mem_cons_of_mem _ (List.mem_append_right _ h)
  have hl := lv_entry ([.ref m0, .int (nI kk)]) (n := 2) (Nat.le_of_ble_eq_true rfl)
  rw [lg_entry_eq]
  generalize (lg_sl ([.ref m0, .int (nI kk)]) ++ List.replicate (2 - (lg_sl ([.ref m0, .int (nI kk)])).length) Slot.unset).toArray = ls at hl ⊢
  have hl : lv_has ls 2 [(0, .ref m0), (1, .int (nI kk))] := hl
  refine lv_iload_n hx hb dX9_warned_0 rfl (lv_at hl 1 rfl) ?_
  refine rSi hE ⟨hx, hb, hml, hown, hts⟩ (c_X9_isLoad l E (nI kk) ) (va_cwS 1 hts gX9_warned_X9_isLoad rfl rfl rfl (by decide +kernel) ⟨Nat.le_of_ble_eq_true rfl, Nat.le_of_ble_eq_true rfl⟩) (hP.sub [] rfl) rfl hl.1 rfl (Nat.le_of_ble_eq_true rfl) dX9_warned_1 ⟨(Nat.zero_le _), (Nat.zero_le _)⟩ ?_
  refine lv_if_ne (tgt := 11) hx hb dX9_warned_4 (by decide) (fun c_4 => ?_) (fun c_4 => by exfalso; have c_4 := fWi_0 c_4; exact c_4 ⟨nI_pos' (by omega), nI_le (b := 3) (by omega) (by omega)⟩)
  have c_4 := fWi_1 c_4
  refine lv_aload_n hx hb dX9_warned_11 rfl (lv_at hl 0 rfl) ?_
  refine va_get (D := E.1) (ci := 9) (v := .ref rD) (C := RX9) (T := TX9) (N := 32) hx hb hts hinX9 hown hK hP 0 rfl rfl 31 (by decide) (hts (.fieldLink RX9 85 "WornRingsModel" "warned" "[Z") (by decide +kernel)) (fun _ h9 => h9) rfl dX9_warned_12 ?_
  refine lv_iload_n hx hb dX9_warned_15 rfl (lv_at hl 1 rfl) ?_
  refine va_zald hx hb hK hP 1 3 rfl rfl (vp_in_nI (by omega) (by omega)) dX9_warned_16 ?_
  rw [nI_clamp (n := kk) (by omega)]
  refine lv_if_eq (tgt := 24) hx hb dX9_warned_17 (by decide) (fun c_17 => ?_) (fun c_17 => ?_)
  · refine lv_iconst (v := 0) hx hb dX9_warned_24 (by decide) ?_
    exact W.iret (v := 0) hx hb hr (fun t9 ht9 hW9 => ⟨0, rfl, by first | exact (if_pos c_17).symm | exact (if_neg c_17).symm, ht9⟩) (fun _ h => absurd h List.not_mem_nil) dX9_warned_25
  · refine lv_iconst (v := 1) hx hb dX9_warned_20 (by decide) ?_
    refine lv_goto (tgt := 25) hx hb dX9_warned_21 (by decide) ?_
    exact W.iret (v := 1) hx hb hr (fun t9 ht9 hW9 => ⟨1, rfl, by first | exact (if_pos c_17).symm | exact (if_neg c_17).symm, ht9⟩) (fun _ h => absurd h List.not_mem_nil) dX9_warned_25
set_option maxHeartbeats 1000000 in
set_option maxRecDepth 100000 in
theorem c_X9_repair (l : Launch) (E : EnvT) (sz : Nat) (m0 : Nat) (sh : Int32) (rO : Nat) (rU : Nat) (rT : Nat) (rg : Int32) (rS : Nat) (rB : Nat) (rP : Nat) (rG : Nat) (ab0 : Int64) (be0 : Int64) (mk : Int32) (rM : Nat) (md : Int32) (rN : Nat) (rL : Nat) (rZ : Nat) (rE : Nat) (rI : Nat) (hc : Int32) (rA : Nat) (rX : Nat) (lnn : Int32) (rV : Nat) (rW : Nat) (sl : Int32) (rC : Nat) (rF : Nat) (rQ : Nat) (rK : Nat) (rR : Nat) (rD : Nat) (Wd : Nat → Int32) (Mn : Nat → Nat)  : Met l yX9_repair wsX9_repair ({ frames := 0, cells := 0, slots := 0, locals := 0 }) (va_Pc [.ref m0] (PW E [(m0, .inr (9, [.int sh, .ref rO, .ref rU, .ref rT, .int rg, .ref rS, .ref rB, .ref rP, .ref rG, .long ab0, .long be0, .int mk, .ref rM, .int md, .ref rN, .ref rL, .ref rZ, .ref rE, .ref rI, .int hc, .ref rA, .ref rX, .int lnn, .ref rV, .ref rW, .int sl, .ref rC, .ref rF, .ref rQ, .ref rK, .ref rR, .ref rD])), (rD, .inl (E.2 3, 4, .inl Wd)), (rK, .inl (E.2 1, 4, .inl (nA Mn)))] sz)) (va_Qi (fun (r : Int32) (uu : Unit) => r = nI (bzM Wd 4)) (fun (uu : Unit) t => BW E (va_A [(m0, .inr (9, [.int sh, .ref rO, .ref rU, .ref rT, .int rg, .ref rS, .ref rB, .ref rP, .ref rG, .long ab0, .long be0, .int mk, .ref rM, .int md, .ref rN, .ref rL, .ref rZ, .ref rE, .ref rI, .int hc, .ref rA, .ref rX, .int lnn, .ref rV, .ref rW, .int sl, .ref rC, .ref rF, .ref rQ, .ref rK, .ref rR, .ref rD])), (rD, .inl (E.2 3, 4, .inl Wd)), (rK, .inl (E.2 1, 4, .inl (nA Mn)))] sz) [(m0, .inr (9, [.int sh, .ref rO, .ref rU, .ref rT, .int rg, .ref rS, .ref rB, .ref rP, .ref rG, .long ab0, .long be0, .int mk, .ref rM, .int md, .ref rN, .ref rL, .ref rZ, .ref rE, .ref rI, .int hc, .ref rA, .ref rX, .int lnn, .ref rV, .ref rW, .int sl, .ref rC, .ref rF, .ref rQ, .ref rK, .ref rR, .ref rD])), (rD, .inl (E.2 3, 4, .inl (flF (fun _ => (0 : Int32)) 4 Wd))), (rK, .inl (E.2 1, 4, .inl (nA (flF (fun _ => 0) 4 Mn))))] t) (va_A [(m0, .inr (9, [.int sh, .ref rO, .ref rU, .ref rT, .int rg, .ref rS, .ref rB, .ref rP, .ref rG, .long ab0, .long be0, .int mk, .ref rM, .int md, .ref rN, .ref rL, .ref rZ, .ref rE, .ref rI, .int hc, .ref rA, .ref rX, .int lnn, .ref rV, .ref rW, .int sl, .ref rC, .ref rF, .ref rQ, .ref rK, .ref rR, .ref rD])), (rD, .inl (E.2 3, 4, .inl Wd)), (rK, .inl (E.2 1, 4, .inl (nA Mn)))] sz)) 0 0 (va_A [(m0, .inr (9, [.int sh, .ref rO, .ref rU, .ref rT, .int rg, .ref rS, .ref rB, .ref rP, .ref rG, .long ab0, .long be0, .int mk, .ref rM, .int md, .ref rN, .ref rL, .ref rZ, .ref rE, .ref rI, .int hc, .ref rA, .ref rX, .int lnn, .ref rV, .ref rW, .int sl, .ref rC, .ref rF, .ref rQ, .ref rK, .ref rR, .ref rD])), (rD, .inl (E.2 3, 4, .inl Wd)), (rK, .inl (E.2 1, 4, .inl (nA Mn)))] sz) := by
  refine Met.ofW (cc := cX9_repair) (maxL := 3) (ret := (some .int)) (by decide +kernel) rfl ?_
  intro p e s m args below meth c s₁ B hml hv
  obtain ⟨rfl, hsz, hP, hE, hD0⟩ := hv
  have hx := B.exec
  have hb := B.bytes
  have hr := B.returns
  have hts := atoms_spec (ws := wsX9_repair) B.pre
  have hown : s.vm.findClass RX9 = some m.cls := findClass_of_methodNamed B.named
  have hlocks := B.notSynchronized
  have hK := hE.1
  have hNN := hE.2.1
  have hinX9 : ∀ w ∈ wsX90, w ∈ wsX9_repair := fun w h => List.mem_cons_of_mem _ (List.mem_append_right _ h)
  subst hsz
  have hD := hD0.self (sz := s.heap.size)
  generalize hAe : va_A [(m0, .inr (9, [.int sh, .ref rO, .ref rU, .ref rT, .int rg, .ref rS, .ref rB, .ref rP, .ref rG, .long ab0, .long be0, .int mk, .ref rM, .int md, .ref rN, .ref rL, .ref rZ, .ref rE, .ref rI, .int hc, .ref rA, .ref rX, .int lnn, .ref rV, .ref rW, .int sl, .ref rC, .ref rF, .ref rQ, .ref rK, .ref rR, .ref rD])), (rD, .inl (E.2 3, 4, .inl Wd)), (rK, .inl (E.2 1, 4, .inl (nA Mn)))] s.heap.size = A at hD ⊢
  have hA : ∀ q : Nat, s.heap.size ≤ q → A q := fun q h => by rw [← hAe]; exact Or.inr h
  have hS : va_S A s.heap s.heap [] := va_S.rf
  have hl := lv_entry ([.ref m0]) (n := 3) (Nat.le_of_ble_eq_true rfl)
  rw [lg_entry_eq]
  generalize (lg_sl ([.ref m0]) ++ List.replicate (3 - (lg_sl ([.ref m0])).length) Slot.unset).toArray = ls at hl ⊢
  have hl : lv_has ls 3 [(0, .ref m0)] := hl
  refine lv_iconst (v := 0) hx hb dX9_repair_0 (by decide) ?_
  refine lv_istore_n (lv' := [(1, .int 0), (0, .ref m0)]) hx hb dX9_repair_1 rfl hl (by decide) rfl (fun ls hl => ?_)
  refine lv_iconst (v := 0) hx hb dX9_repair_2 (by decide) ?_
  refine lv_istore_n (lv' := [(2, .int 0), (1, .int 0), (0, .ref m0)]) hx hb dX9_repair_3 rfl hl (by decide) rfl (fun ls hl => ?_)
  refine (fun (lp4 : ∀ (n9 : Nat) (i : Nat) (H : Heap) (locs : List Loc) (ls : Array Slot), (4 - i) < n9 → (i ≤ 4) → va_P E.1 vwCl [(m0, .inr (9, [.int sh, .ref rO, .ref rU, .ref rT, .int rg, .ref rS, .ref rB, .ref rP, .ref rG, .long ab0, .long be0, .int mk, .ref rM, .int md, .ref rN, .ref rL, .ref rZ, .ref rE, .ref rI, .int hc, .ref rA, .ref rX, .int lnn, .ref rV, .ref rW, .int sl, .ref rC, .ref rF, .ref rQ, .ref rK, .ref rR, .ref rD])), (rD, .inl (E.2 3, 4, .inl (flF (fun _ => (0 : Int32)) i Wd))), (rK, .inl (E.2 1, 4, .inl (nA (flF (fun _ => 0) i Mn))))] H → va_D A [(m0, .inr (9, [.int sh, .ref rO, .ref rU, .ref rT, .int rg, .ref rS, .ref rB, .ref rP, .ref rG, .long ab0, .long be0, .int mk, .ref rM, .int md, .ref rN, .ref rL, .ref rZ, .ref rE, .ref rI, .int hc, .ref rA, .ref rX, .int lnn, .ref rV, .ref rW, .int sl, .ref rC, .ref rF, .ref rQ, .ref rK, .ref rR, .ref rD])), (rD, .inl (E.2 3, 4, .inl (flF (fun _ => (0 : Int32)) i Wd))), (rK, .inl (E.2 1, 4, .inl (nA (flF (fun _ => 0) i Mn))))] → va_S A s.heap H locs → lv_has ls 3 [(0, .ref m0), (1, .int (nI (bzM Wd i))), (2, .int (nI i))] → W p l e _ s m _ below meth c H locs _ _ _ (F0 m 4 ls [])) => lp4 (5) 0 _ _ _ (by omega) (by omega) (by rw [flF_0, flF_0]; exact hP.sub [0, 1, 2] rfl) (by rw [flF_0, flF_0]; exact hD.sub [0, 1, 2] (by decide) rfl) hS (lv_sub hl [2, 1, 0] rfl)) ?_
  intro n4
  induction n4 with
  | zero => intro i H locs ls h0; exact absurd (by assumption) (Nat.not_lt_zero _)
  | succ n4 ih4 =>
    intro i H locs ls hmu4 hi hP hD hS hl
    have hb9 := bzM_le Wd i
    have hW9 : flF (fun _ => (0 : Int32)) i Wd i = Wd i := by unfold flF; rw [if_neg (by omega)]
    refine lv_iload_n hx hb dX9_repair_4 rfl (lv_at hl 2 rfl) ?_
    refine lv_iconst (v := 4) hx hb dX9_repair_5 (by decide) ?_
    refine lv_icmp_ge (tgt := 46) hx hb dX9_repair_6 (by decide) (fun c_6 => ?_) (fun c_6 => ?_)
    · have c_6 : 4 ≤ i := (nI_leI (a := 4) (b := i) (by omega) (by omega)).mp c_6
      refine lv_iload_n hx hb dX9_repair_46 rfl (lv_at hl 1 rfl) ?_
      have e9 : ([(m0, .inr (9, [.int sh, .ref rO, .ref rU, .ref rT, .int rg, .ref rS, .ref rB, .ref rP, .ref rG, .long ab0, .long be0, .int mk, .ref rM, .int md, .ref rN, .ref rL, .ref rZ, .ref rE, .ref rI, .int hc, .ref rA, .ref rX, .int lnn, .ref rV, .ref rW, .int sl, .ref rC, .ref rF, .ref rQ, .ref rK, .ref rR, .ref rD])), (rD, .inl (E.2 3, 4, .inl (flF (fun _ => (0 : Int32)) 4 Wd))), (rK, .inl (E.2 1, 4, .inl (nA (flF (fun _ => 0) 4 Mn))))] : va_W) = [(m0, .inr (9, [.int sh, .ref rO, .ref rU, .ref rT, .int rg, .ref rS, .ref rB, .ref rP, .ref rG, .long ab0, .long be0, .int mk, .ref rM, .int md, .ref rN, .ref rL, .ref rZ, .ref rE, .ref rI, .int hc, .ref rA, .ref rX, .int lnn, .ref rV, .ref rW, .int sl, .ref rC, .ref rF, .ref rQ, .ref rK, .ref rR, .ref rD])), (rD, .inl (E.2 3, 4, .inl (flF (fun _ => (0 : Int32)) i Wd))), (rK, .inl (E.2 1, 4, .inl (nA (flF (fun _ => 0) i Mn))))] := by rw [show i = 4 by omega]
      have hP9 : va_P E.1 vwCl [(m0, .inr (9, [.int sh, .ref rO, .ref rU, .ref rT, .int rg, .ref rS, .ref rB, .ref rP, .ref rG, .long ab0, .long be0, .int mk, .ref rM, .int md, .ref rN, .ref rL, .ref rZ, .ref rE, .ref rI, .int hc, .ref rA, .ref rX, .int lnn, .ref rV, .ref rW, .int sl, .ref rC, .ref rF, .ref rQ, .ref rK, .ref rR, .ref rD])), (rD, .inl (E.2 3, 4, .inl (flF (fun _ => (0 : Int32)) 4 Wd))), (rK, .inl (E.2 1, 4, .inl (nA (flF (fun _ => 0) 4 Mn))))] H := by rw [e9]; exact hP.sub [0, 1, 2] rfl
      have hD9 : va_D A [(m0, .inr (9, [.int sh, .ref rO, .ref rU, .ref rT, .int rg, .ref rS, .ref rB, .ref rP, .ref rG, .long ab0, .long be0, .int mk, .ref rM, .int md, .ref rN, .ref rL, .ref rZ, .ref rE, .ref rI, .int hc, .ref rA, .ref rX, .int lnn, .ref rV, .ref rW, .int sl, .ref rC, .ref rF, .ref rQ, .ref rK, .ref rR, .ref rD])), (rD, .inl (E.2 3, 4, .inl (flF (fun _ => (0 : Int32)) 4 Wd))), (rK, .inl (E.2 1, 4, .inl (nA (flF (fun _ => 0) 4 Mn))))] := by rw [e9]; exact hD.sub [0, 1, 2] (by decide) rfl
      exact W.iret (v := nI (bzM Wd i)) hx hb hr (fun t9 ht9 hW9 => ⟨⟨nI (bzM Wd i), (), rfl, by rw [show i = 4 by omega], ⟨by rw [ht9]; exact hP9, hD9⟩⟩, hS.F ht9⟩) hS.2.2 dX9_repair_47
    · have c_6 : ¬ 4 ≤ i := fun h9 => c_6 ((nI_leI (a := 4) (b := i) (by omega) (by omega)).mpr h9)
      refine lv_iload_n hx hb dX9_repair_9 rfl (lv_at hl 1 rfl) ?_
      refine lv_aload_n hx hb dX9_repair_10 rfl (lv_at hl 0 rfl) ?_
      refine va_get (D := E.1) (ci := 9) (v := .ref rD) (C := RX9) (T := TX9) (N := 32) hx hb hts hinX9 hown hK hP 0 rfl rfl 31 (by decide) (hts (.fieldLink RX9 85 "WornRingsModel" "warned" "[Z") (by decide +kernel)) (fun _ h9 => h9) rfl dX9_repair_11 ?_
      refine lv_iload_n hx hb dX9_repair_14 rfl (lv_at hl 2 rfl) ?_
      refine va_zald hx hb hK hP 1 3 rfl rfl (vp_in_nI (by omega) (by omega)) dX9_repair_15 ?_
      rw [nI_clamp (n := i) (by omega)]
      rw [show ((flF (fun _ => (0 : Int32)) i Wd) i : Int32) = Wd i from hW9]
      refine lv_if_eq (tgt := 23) hx hb dX9_repair_16 (by decide) (fun c_16 => ?_) (fun c_16 => ?_)
      · refine lv_iconst (v := 0) hx hb dX9_repair_23 (by decide) ?_
        refine lv_iadd hx hb dX9_repair_24 ?_
        rw [show ((nI (bzM Wd i)) + (0 : Int32) : Int32) = nI ((bzM Wd i) + 0) from nI_add (bzM Wd i) 0]
        have e25 : bzM Wd (i + 1) = bzM Wd i + 0 := by rw [bzM, bz]; first | rw [if_pos c_16] | rw [if_neg c_16]
        refine lv_istore_n (lv' := [(1, .int (nI ((bzM Wd i) + 0))), (0, .ref m0), (2, .int (nI i))]) hx hb dX9_repair_25 rfl hl (by decide) rfl (fun ls hl => ?_)
        refine lv_aload_n hx hb dX9_repair_26 rfl (lv_at hl 1 rfl) ?_
        refine va_get (D := E.1) (ci := 9) (v := .ref rD) (C := RX9) (T := TX9) (N := 32) hx hb hts hinX9 hown hK hP 0 rfl rfl 31 (by decide) (hts (.fieldLink RX9 85 "WornRingsModel" "warned" "[Z") (by decide +kernel)) (fun _ h9 => h9) rfl dX9_repair_27 ?_
        refine lv_iload_n hx hb dX9_repair_30 rfl (lv_at hl 2 rfl) ?_
        refine lv_iconst (v := 0) hx hb dX9_repair_31 (by decide) ?_
        refine va_zast hx hb hK hP hD hS 1 3 rfl rfl (vp_in_nI (by omega) (by omega)) dX9_repair_32 (fun H locs hP hD hS => ?_)
        rw [nI_clamp (n := i) (by omega)] at hP hD
        have hP : va_P E.1 vwCl [(m0, .inr (9, [.int sh, .ref rO, .ref rU, .ref rT, .int rg, .ref rS, .ref rB, .ref rP, .ref rG, .long ab0, .long be0, .int mk, .ref rM, .int md, .ref rN, .ref rL, .ref rZ, .ref rE, .ref rI, .int hc, .ref rA, .ref rX, .int lnn, .ref rV, .ref rW, .int sl, .ref rC, .ref rF, .ref rQ, .ref rK, .ref rR, .ref rD])), (rD, .inl (E.2 3, 4, .inl (upd (flF (fun _ => (0 : Int32)) i Wd) i (vp_nar .boolean 0)))), (rK, .inl (E.2 1, 4, .inl (nA (flF (fun _ => 0) i Mn))))] H := hP
        have hD : va_D A [(m0, .inr (9, [.int sh, .ref rO, .ref rU, .ref rT, .int rg, .ref rS, .ref rB, .ref rP, .ref rG, .long ab0, .long be0, .int mk, .ref rM, .int md, .ref rN, .ref rL, .ref rZ, .ref rE, .ref rI, .int hc, .ref rA, .ref rX, .int lnn, .ref rV, .ref rW, .int sl, .ref rC, .ref rF, .ref rQ, .ref rK, .ref rR, .ref rD])), (rD, .inl (E.2 3, 4, .inl (upd (flF (fun _ => (0 : Int32)) i Wd) i (vp_nar .boolean 0)))), (rK, .inl (E.2 1, 4, .inl (nA (flF (fun _ => 0) i Mn))))] := hD
        refine lv_aload_n hx hb dX9_repair_33 rfl (lv_at hl 1 rfl) ?_
        refine va_get (D := E.1) (ci := 9) (v := .ref rK) (C := RX9) (T := TX9) (N := 32) hx hb hts hinX9 hown hK hP 0 rfl rfl 29 (by decide) (hts (.fieldLink RX9 79 "WornRingsModel" "many" "[I") (by decide +kernel)) (fun _ h9 => h9) rfl dX9_repair_34 ?_
        refine lv_iload_n hx hb dX9_repair_37 rfl (lv_at hl 2 rfl) ?_
        refine lv_iconst (v := 0) hx hb dX9_repair_38 (by decide) ?_
        refine va_iast hx hb hK hP hD hS 2 1 rfl rfl (vp_in_nI (by omega) (by omega)) dX9_repair_39 (fun H locs hP hD hS => ?_)
        rw [nI_clamp (n := i) (by omega)] at hP hD
        rw [show upd (nA (flF (fun _ => 0) i Mn)) i ((0 : Int32)) = nA (updN (flF (fun _ => 0) i Mn) i 0) from upd_nA _ _ _] at hP hD
        have hP : va_P E.1 vwCl [(m0, .inr (9, [.int sh, .ref rO, .ref rU, .ref rT, .int rg, .ref rS, .ref rB, .ref rP, .ref rG, .long ab0, .long be0, .int mk, .ref rM, .int md, .ref rN, .ref rL, .ref rZ, .ref rE, .ref rI, .int hc, .ref rA, .ref rX, .int lnn, .ref rV, .ref rW, .int sl, .ref rC, .ref rF, .ref rQ, .ref rK, .ref rR, .ref rD])), (rD, .inl (E.2 3, 4, .inl (upd (flF (fun _ => (0 : Int32)) i Wd) i (vp_nar .boolean 0)))), (rK, .inl (E.2 1, 4, .inl (nA (updN (flF (fun _ => 0) i Mn) i 0))))] H := hP
        have hD : va_D A [(m0, .inr (9, [.int sh, .ref rO, .ref rU, .ref rT, .int rg, .ref rS, .ref rB, .ref rP, .ref rG, .long ab0, .long be0, .int mk, .ref rM, .int md, .ref rN, .ref rL, .ref rZ, .ref rE, .ref rI, .int hc, .ref rA, .ref rX, .int lnn, .ref rV, .ref rW, .int sl, .ref rC, .ref rF, .ref rQ, .ref rK, .ref rR, .ref rD])), (rD, .inl (E.2 3, 4, .inl (upd (flF (fun _ => (0 : Int32)) i Wd) i (vp_nar .boolean 0)))), (rK, .inl (E.2 1, 4, .inl (nA (updN (flF (fun _ => 0) i Mn) i 0))))] := hD
        refine lv_iinc (v := nI (i + 1)) (lv' := [(2, .int (nI (i + 1))), (1, .int (nI ((bzM Wd i) + 0))), (0, .ref m0)]) hx hb dX9_repair_40 hl (k := 2) rfl (nI_add i 1) (by decide) rfl (fun ls hl => ?_)
        refine lv_goto (tgt := 4) hx hb dX9_repair_43 (by decide) ?_
        have e9_0 : bzM Wd (i + 1) = (bzM Wd i) + 0 := e25
        exact ih4 (i + 1) _ _ _ (by omega) (by omega) (by rw [← flF_s, ← updN_fl]; exact hP.sub [0, 1, 2] rfl) (by rw [← flF_s, ← updN_fl]; exact hD.sub [0, 1, 2] (by decide) rfl) hS (by rw [e9_0]; exact lv_sub hl [2, 1, 0] rfl)
      · refine lv_iconst (v := 1) hx hb dX9_repair_19 (by decide) ?_
        refine lv_goto (tgt := 24) hx hb dX9_repair_20 (by decide) ?_
        refine lv_iadd hx hb dX9_repair_24 ?_
        rw [show ((nI (bzM Wd i)) + (1 : Int32) : Int32) = nI ((bzM Wd i) + 1) from nI_add (bzM Wd i) 1]
        have e25 : bzM Wd (i + 1) = bzM Wd i + 1 := by rw [bzM, bz]; first | rw [if_pos c_16] | rw [if_neg c_16]
        refine lv_istore_n (lv' := [(1, .int (nI ((bzM Wd i) + 1))), (0, .ref m0), (2, .int (nI i))]) hx hb dX9_repair_25 rfl hl (by decide) rfl (fun ls hl => ?_)
        refine lv_aload_n hx hb dX9_repair_26 rfl (lv_at hl 1 rfl) ?_
        refine va_get (D := E.1) (ci := 9) (v := .ref rD) (C := RX9) (T := TX9) (N := 32) hx hb hts hinX9 hown hK hP 0 rfl rfl 31 (by decide) (hts (.fieldLink RX9 85 "WornRingsModel" "warned" "[Z") (by decide +kernel)) (fun _ h9 => h9) rfl dX9_repair_27 ?_
        refine lv_iload_n hx hb dX9_repair_30 rfl (lv_at hl 2 rfl) ?_
        refine lv_iconst (v := 0) hx hb dX9_repair_31 (by decide) ?_
        refine va_zast hx hb hK hP hD hS 1 3 rfl rfl (vp_in_nI (by omega) (by omega)) dX9_repair_32 (fun H locs hP hD hS => ?_)
        rw [nI_clamp (n := i) (by omega)] at hP hD
        have hP : va_P E.1 vwCl [(m0, .inr (9, [.int sh, .ref rO, .ref rU, .ref rT, .int rg, .ref rS, .ref rB, .ref rP, .ref rG, .long ab0, .long be0, .int mk, .ref rM, .int md, .ref rN, .ref rL, .ref rZ, .ref rE, .ref rI, .int hc, .ref rA, .ref rX, .int lnn, .ref rV, .ref rW, .int sl, .ref rC, .ref rF, .ref rQ, .ref rK, .ref rR, .ref rD])), (rD, .inl (E.2 3, 4, .inl (upd (flF (fun _ => (0 : Int32)) i Wd) i (vp_nar .boolean 0)))), (rK, .inl (E.2 1, 4, .inl (nA (flF (fun _ => 0) i Mn))))] H := hP
        have hD : va_D A [(m0, .inr (9, [.int sh, .ref rO, .ref rU, .ref rT, .int rg, .ref rS, .ref rB, .ref rP, .ref rG, .long ab0, .long be0, .int mk, .ref rM, .int md, .ref rN, .ref rL, .ref rZ, .ref rE, .ref rI, .int hc, .ref rA, .ref rX, .int lnn, .ref rV, .ref rW, .int sl, .ref rC, .ref rF, .ref rQ, .ref rK, .ref rR, .ref rD])), (rD, .inl (E.2 3, 4, .inl (upd (flF (fun _ => (0 : Int32)) i Wd) i (vp_nar .boolean 0)))), (rK, .inl (E.2 1, 4, .inl (nA (flF (fun _ => 0) i Mn))))] := hD
        refine lv_aload_n hx hb dX9_repair_33 rfl (lv_at hl 1 rfl) ?_
        refine va_get (D := E.1) (ci := 9) (v := .ref rK) (C := RX9) (T := TX9) (N := 32) hx hb hts hinX9 hown hK hP 0 rfl rfl 29 (by decide) (hts (.fieldLink RX9 79 "WornRingsModel" "many" "[I") (by decide +kernel)) (fun _ h9 => h9) rfl dX9_repair_34 ?_
        refine lv_iload_n hx hb dX9_repair_37 rfl (lv_at hl 2 rfl) ?_
        refine lv_iconst (v := 0) hx hb dX9_repair_38 (by decide) ?_
        refine va_iast hx hb hK hP hD hS 2 1 rfl rfl (vp_in_nI (by omega) (by omega)) dX9_repair_39 (fun H locs hP hD hS => ?_)
        rw [nI_clamp (n := i) (by omega)] at hP hD
        rw [show upd (nA (flF (fun _ => 0) i Mn)) i ((0 : Int32)) = nA (updN (flF (fun _ => 0) i Mn) i 0) from upd_nA _ _ _] at hP hD
        have hP : va_P E.1 vwCl [(m0, .inr (9, [.int sh, .ref rO, .ref rU, .ref rT, .int rg, .ref rS, .ref rB, .ref rP, .ref rG, .long ab0, .long be0, .int mk, .ref rM, .int md, .ref rN, .ref rL, .ref rZ, .ref rE, .ref rI, .int hc, .ref rA, .ref rX, .int lnn, .ref rV, .ref rW, .int sl, .ref rC, .ref rF, .ref rQ, .ref rK, .ref rR, .ref rD])), (rD, .inl (E.2 3, 4, .inl (upd (flF (fun _ => (0 : Int32)) i Wd) i (vp_nar .boolean 0)))), (rK, .inl (E.2 1, 4, .inl (nA (updN (flF (fun _ => 0) i Mn) i 0))))] H := hP
        have hD : va_D A [(m0, .inr (9, [.int sh, .ref rO, .ref rU, .ref rT, .int rg, .ref rS, .ref rB, .ref rP, .ref rG, .long ab0, .long be0, .int mk, .ref rM, .int md, .ref rN, .ref rL, .ref rZ, .ref rE, .ref rI, .int hc, .ref rA, .ref rX, .int lnn, .ref rV, .ref rW, .int sl, .ref rC, .ref rF, .ref rQ, .ref rK, .ref rR, .ref rD])), (rD, .inl (E.2 3, 4, .inl (upd (flF (fun _ => (0 : Int32)) i Wd) i (vp_nar .boolean 0)))), (rK, .inl (E.2 1, 4, .inl (nA (updN (flF (fun _ => 0) i Mn) i 0))))] := hD
        refine lv_iinc (v := nI (i + 1)) (lv' := [(2, .int (nI (i + 1))), (1, .int (nI ((bzM Wd i) + 1))), (0, .ref m0)]) hx hb dX9_repair_40 hl (k := 2) rfl (nI_add i 1) (by decide) rfl (fun ls hl => ?_)
        refine lv_goto (tgt := 4) hx hb dX9_repair_43 (by decide) ?_
        have e9_0 : bzM Wd (i + 1) = (bzM Wd i) + 1 := e25
        exact ih4 (i + 1) _ _ _ (by omega) (by omega) (by rw [← flF_s, ← updN_fl]; exact hP.sub [0, 1, 2] rfl) (by rw [← flF_s, ← updN_fl]; exact hD.sub [0, 1, 2] (by decide) rfl) hS (by rw [e9_0]; exact lv_sub hl [2, 1, 0] rfl)
set_option maxHeartbeats 1000000 in
set_option maxRecDepth 100000 in
theorem c_X9_isSheet (l : Launch) (E : EnvT) (sv : Int32) (l2 : Int32)  : Met l yX9_isSheet wsX9_isSheet ({ frames := 1, cells := 0, slots := 0, locals := 25 }) (va_Pc [.int sv, .int l2] (PR E [])) (vp_Si (fun r => r = fSh sv l2)) 0 0 (fun _ => False) := by
  refine Met.ofW (cc := cX9_isSheet) (maxL := 2) (ret := (some .boolean)) (by decide +kernel) rfl ?_
  intro p e s m args below meth c s₁ B hml hv
  obtain ⟨rfl, hP, hE⟩ := hv
  have hx := B.exec
  have hb := B.bytes
  have hr := B.returns
  have hts := atoms_spec (ws := wsX9_isSheet) B.pre
  have hown : s.vm.findClass RX9 = some m.cls := findClass_of_methodNamed B.named
  have hlocks := B.notSynchronized
  have hK := hE.1
  have hNN := hE.2.1
  have hl := lv_entry ([.int sv, .int l2]) (n := 2) (Nat.le_of_ble_eq_true rfl)
  rw [lg_entry_eq]
  generalize (lg_sl ([.int sv, .int l2]) ++ List.replicate (2 - (lg_sl ([.int sv, .int l2])).length) Slot.unset).toArray = ls at hl ⊢
  have hl : lv_has ls 2 [(0, .int sv), (1, .int l2)] := hl
  refine lv_iload_n hx hb dX9_isSheet_0 rfl (lv_at hl 0 rfl) ?_
  refine lv_i2l (v := sv.toInt64) hx hb dX9_isSheet_1 (rfl) ?_
  refine lv_lconst (v := 0) hx hb dX9_isSheet_2 (by decide) ?_
  refine lv_ldc2 (v := 3) hx hb hown (hts (.constantLong RX9 108 (3)) (by decide +kernel)) dX9_isSheet_3 ?_
  refine rSi hE ⟨hx, hb, hml, hown, hts⟩ (c_X9_in l E sv.toInt64 0 3 ) (va_cwS 3 hts gX9_isSheet_X9_in rfl rfl rfl (by decide +kernel) ⟨Nat.le_of_ble_eq_true rfl, Nat.le_of_ble_eq_true rfl⟩) (hP.sub [] rfl) rfl hl.1 rfl (Nat.le_of_ble_eq_true rfl) dX9_isSheet_6 ⟨(Nat.zero_le _), (Nat.zero_le _)⟩ ?_
  rw [show fIn sv.toInt64 0 3 = fWi sv 0 3 from fIn_c (rfl) (by decide) (by decide)]
  refine lv_if_eq (tgt := 28) hx hb dX9_isSheet_9 (by decide) (fun c_9 => ?_) (fun c_9 => ?_)
  · have c_9 := fWi_0 c_9
    refine lv_iconst (v := 0) hx hb dX9_isSheet_28 (by decide) ?_
    exact W.zret (v := 0) hx hb hr (rfl) (fun t9 ht9 hW9 => ⟨0, rfl, by first | exact (if_neg (fun h9 => c_9 h9.1)).symm | exact (if_neg (fun h9 => c_21 h9.2)).symm | exact (if_pos ⟨c_9, c_21⟩).symm, ht9⟩) (fun _ h => absurd h List.not_mem_nil) dX9_isSheet_29
  · have c_9 := fWi_1 c_9
    refine lv_iload_n hx hb dX9_isSheet_12 rfl (lv_at hl 1 rfl) ?_
    refine lv_i2l (v := l2.toInt64) hx hb dX9_isSheet_13 (rfl) ?_
    refine lv_lconst (v := 0) hx hb dX9_isSheet_14 (by decide) ?_
    refine lv_ldc2 (v := 2) hx hb hown (hts (.constantLong RX9 140 (2)) (by decide +kernel)) dX9_isSheet_15 ?_
    refine rSi hE ⟨hx, hb, hml, hown, hts⟩ (c_X9_in l E l2.toInt64 0 2 ) (va_cwS 3 hts gX9_isSheet_X9_in rfl rfl rfl (by decide +kernel) ⟨Nat.le_of_ble_eq_true rfl, Nat.le_of_ble_eq_true rfl⟩) (hP.sub [] rfl) rfl hl.1 rfl (Nat.le_of_ble_eq_true rfl) dX9_isSheet_18 ⟨(Nat.zero_le _), (Nat.zero_le _)⟩ ?_
    rw [show fIn l2.toInt64 0 2 = fWi l2 0 2 from fIn_c (rfl) (by decide) (by decide)]
    refine lv_if_eq (tgt := 28) hx hb dX9_isSheet_21 (by decide) (fun c_21 => ?_) (fun c_21 => ?_)
    · have c_21 := fWi_0 c_21
      refine lv_iconst (v := 0) hx hb dX9_isSheet_28 (by decide) ?_
      exact W.zret (v := 0) hx hb hr (rfl) (fun t9 ht9 hW9 => ⟨0, rfl, by first | exact (if_neg (fun h9 => c_9 h9.1)).symm | exact (if_neg (fun h9 => c_21 h9.2)).symm | exact (if_pos ⟨c_9, c_21⟩).symm, ht9⟩) (fun _ h => absurd h List.not_mem_nil) dX9_isSheet_29
    · have c_21 := fWi_1 c_21
      refine lv_iconst (v := 1) hx hb dX9_isSheet_24 (by decide) ?_
      refine lv_goto (tgt := 29) hx hb dX9_isSheet_25 (by decide) ?_
      exact W.zret (v := 1) hx hb hr (rfl) (fun t9 ht9 hW9 => ⟨1, rfl, by first | exact (if_neg (fun h9 => c_9 h9.1)).symm | exact (if_neg (fun h9 => c_21 h9.2)).symm | exact (if_pos ⟨c_9, c_21⟩).symm, ht9⟩) (fun _ h => absurd h List.not_mem_nil) dX9_isSheet_29
set_option maxHeartbeats 1000000 in
set_option maxRecDepth 100000 in
theorem c_X9_sheet_no (l : Launch) (E : EnvT) (sz : Nat) (m0 : Nat) (sh : Int32) (rO : Nat) (rU : Nat) (rT : Nat) (rg : Int32) (rS : Nat) (rB : Nat) (rP : Nat) (rG : Nat) (ab0 : Int64) (be0 : Int64) (mk : Int32) (rM : Nat) (md : Int32) (rN : Nat) (rL : Nat) (rZ : Nat) (rE : Nat) (rI : Nat) (hc : Int32) (rA : Nat) (rX : Nat) (lnn : Int32) (rV : Nat) (rW : Nat) (sl : Int32) (rC : Nat) (rF : Nat) (rQ : Nat) (rK : Nat) (rR : Nat) (rD : Nat) (sv : Int32) (l2 : Int32) (n2 : Int32) (s2 : Int32) (hno : ¬ (((0 ≤ sv ∧ sv ≤ 3) ∧ (0 ≤ l2 ∧ l2 ≤ 2)) ∧ (¬ 200 < n2) ∧ (1 ≤ s2 ∧ s2 ≤ 1000)) ∨ n2 < 0) : Met l yX9_sheet wsX9_sheet ({ frames := 2, cells := 0, slots := 0, locals := 46 }) (va_Pc [.ref m0, .int sv, .int l2, .int n2, .int s2] (PW E [(m0, .inr (9, [.int sh, .ref rO, .ref rU, .ref rT, .int rg, .ref rS, .ref rB, .ref rP, .ref rG, .long ab0, .long be0, .int mk, .ref rM, .int md, .ref rN, .ref rL, .ref rZ, .ref rE, .ref rI, .int hc, .ref rA, .ref rX, .int lnn, .ref rV, .ref rW, .int sl, .ref rC, .ref rF, .ref rQ, .ref rK, .ref rR, .ref rD]))] sz)) (va_Qi (fun (r : Int32) (uu : Unit) => r = if ((0 ≤ sv ∧ sv ≤ 3) ∧ (0 ≤ l2 ∧ l2 ≤ 2)) ∧ (¬ 200 < n2) ∧ (1 ≤ s2 ∧ s2 ≤ 1000) then -14 else -1) (fun (uu : Unit) t => BW E (va_A [(m0, .inr (9, [.int sh, .ref rO, .ref rU, .ref rT, .int rg, .ref rS, .ref rB, .ref rP, .ref rG, .long ab0, .long be0, .int mk, .ref rM, .int md, .ref rN, .ref rL, .ref rZ, .ref rE, .ref rI, .int hc, .ref rA, .ref rX, .int lnn, .ref rV, .ref rW, .int sl, .ref rC, .ref rF, .ref rQ, .ref rK, .ref rR, .ref rD]))] sz) [(m0, .inr (9, [.int sh, .ref rO, .ref rU, .ref rT, .int rg, .ref rS, .ref rB, .ref rP, .ref rG, .long ab0, .long be0, .int mk, .ref rM, .int md, .ref rN, .ref rL, .ref rZ, .ref rE, .ref rI, .int hc, .ref rA, .ref rX, .int lnn, .ref rV, .ref rW, .int sl, .ref rC, .ref rF, .ref rQ, .ref rK, .ref rR, .ref rD]))] t) (va_A [(m0, .inr (9, [.int sh, .ref rO, .ref rU, .ref rT, .int rg, .ref rS, .ref rB, .ref rP, .ref rG, .long ab0, .long be0, .int mk, .ref rM, .int md, .ref rN, .ref rL, .ref rZ, .ref rE, .ref rI, .int hc, .ref rA, .ref rX, .int lnn, .ref rV, .ref rW, .int sl, .ref rC, .ref rF, .ref rQ, .ref rK, .ref rR, .ref rD]))] sz)) 0 0 (va_A [(m0, .inr (9, [.int sh, .ref rO, .ref rU, .ref rT, .int rg, .ref rS, .ref rB, .ref rP, .ref rG, .long ab0, .long be0, .int mk, .ref rM, .int md, .ref rN, .ref rL, .ref rZ, .ref rE, .ref rI, .int hc, .ref rA, .ref rX, .int lnn, .ref rV, .ref rW, .int sl, .ref rC, .ref rF, .ref rQ, .ref rK, .ref rR, .ref rD]))] sz) := by
  refine Met.ofW (cc := cX9_sheet) (maxL := 6) (ret := (some .int)) (by decide +kernel) rfl ?_
  intro p e s m args below meth c s₁ B hml hv
  obtain ⟨rfl, hsz, hP, hE, hD0⟩ := hv
  have hx := B.exec
  have hb := B.bytes
  have hr := B.returns
  have hts := atoms_spec (ws := wsX9_sheet) B.pre
  have hown : s.vm.findClass RX9 = some m.cls := findClass_of_methodNamed B.named
  have hlocks := B.notSynchronized
  have hK := hE.1
  have hNN := hE.2.1
  subst hsz
  have hD := hD0.self (sz := s.heap.size)
  generalize hAe : va_A [(m0, .inr (9, [.int sh, .ref rO, .ref rU, .ref rT, .int rg, .ref rS, .ref rB, .ref rP, .ref rG, .long ab0, .long be0, .int mk, .ref rM, .int md, .ref rN, .ref rL, .ref rZ, .ref rE, .ref rI, .int hc, .ref rA, .ref rX, .int lnn, .ref rV, .ref rW, .int sl, .ref rC, .ref rF, .ref rQ, .ref rK, .ref rR, .ref rD]))] s.heap.size = A at hD ⊢
  have hA : ∀ q : Nat, s.heap.size ≤ q → A q := fun q h => by rw [← hAe]; exact Or.inr h
  have hS : va_S A s.heap s.heap [] := va_S.rf
  have hl := lv_entry ([.ref m0, .int sv, .int l2, .int n2, .int s2]) (n := 6) (Nat.le_of_ble_eq_true rfl)
  rw [lg_entry_eq]
  generalize (lg_sl ([.ref m0, .int sv, .int l2, .int n2, .int s2]) ++ List.replicate (6 - (lg_sl ([.ref m0, .int sv, .int l2, .int n2, .int s2])).length) Slot.unset).toArray = ls at hl ⊢
  have hl : lv_has ls 6 [(0, .ref m0), (1, .int sv), (2, .int l2), (3, .int n2), (4, .int s2)] := hl
  refine lv_iload_n hx hb dX9_sheet_0 rfl (lv_at hl 1 rfl) ?_
  refine lv_iload_n hx hb dX9_sheet_1 rfl (lv_at hl 2 rfl) ?_
  refine rSi hE ⟨hx, hb, hml, hown, hts⟩ (c_X9_isSheet l E sv l2 ) (va_cwS 2 hts gX9_sheet_X9_isSheet rfl rfl rfl (by decide +kernel) ⟨Nat.le_of_ble_eq_true rfl, Nat.le_of_ble_eq_true rfl⟩) (hP.sub [] rfl) rfl hl.1 rfl (Nat.le_of_ble_eq_true rfl) dX9_sheet_2 ⟨(Nat.zero_le _), (Nat.zero_le _)⟩ ?_
  refine lv_if_eq (tgt := 28) hx hb dX9_sheet_5 (by decide) (fun c_5 => ?_) (fun c_5 => ?_)
  · have c_5 := fSh_0 c_5
    refine lv_iconst (v := (-1)) hx hb dX9_sheet_28 (by decide) ?_
    have hP9 : va_P E.1 vwCl [(m0, .inr (9, [.int sh, .ref rO, .ref rU, .ref rT, .int rg, .ref rS, .ref rB, .ref rP, .ref rG, .long ab0, .long be0, .int mk, .ref rM, .int md, .ref rN, .ref rL, .ref rZ, .ref rE, .ref rI, .int hc, .ref rA, .ref rX, .int lnn, .ref rV, .ref rW, .int sl, .ref rC, .ref rF, .ref rQ, .ref rK, .ref rR, .ref rD]))] s.heap := hP.sub [0] rfl
    have hD9 : va_D A [(m0, .inr (9, [.int sh, .ref rO, .ref rU, .ref rT, .int rg, .ref rS, .ref rB, .ref rP, .ref rG, .long ab0, .long be0, .int mk, .ref rM, .int md, .ref rN, .ref rL, .ref rZ, .ref rE, .ref rI, .int hc, .ref rA, .ref rX, .int lnn, .ref rV, .ref rW, .int sl, .ref rC, .ref rF, .ref rQ, .ref rK, .ref rR, .ref rD]))] := hD.sub [0] (by decide) rfl
    exact W.iret (v := (-1)) hx hb hr (fun t9 ht9 hW9 => ⟨⟨(-1), (), rfl, by first | exact (if_neg (fun h9 => c_5 h9.1)).symm | exact (if_neg (fun h9 => c_25 h9.2.2)).symm | exact (if_neg (fun h9 => h9.2.1 c_12)).symm, ⟨by rw [ht9]; exact hP9, hD9⟩⟩, hS.F ht9⟩) hS.2.2 dX9_sheet_29
  · have c_5 := fSh_1 c_5
    refine lv_iload_n hx hb dX9_sheet_8 rfl (lv_at hl 3 rfl) ?_
    refine lv_sipush (v := 200) hx hb dX9_sheet_9 (by decide) ?_
    refine lv_icmp_gt (tgt := 28) hx hb dX9_sheet_12 (by decide) (fun c_12 => ?_) (fun c_12 => ?_)
    · refine lv_iconst (v := (-1)) hx hb dX9_sheet_28 (by decide) ?_
      have hP9 : va_P E.1 vwCl [(m0, .inr (9, [.int sh, .ref rO, .ref rU, .ref rT, .int rg, .ref rS, .ref rB, .ref rP, .ref rG, .long ab0, .long be0, .int mk, .ref rM, .int md, .ref rN, .ref rL, .ref rZ, .ref rE, .ref rI, .int hc, .ref rA, .ref rX, .int lnn, .ref rV, .ref rW, .int sl, .ref rC, .ref rF, .ref rQ, .ref rK, .ref rR, .ref rD]))] s.heap := hP.sub [0] rfl
      have hD9 : va_D A [(m0, .inr (9, [.int sh, .ref rO, .ref rU, .ref rT, .int rg, .ref rS, .ref rB, .ref rP, .ref rG, .long ab0, .long be0, .int mk, .ref rM, .int md, .ref rN, .ref rL, .ref rZ, .ref rE, .ref rI, .int hc, .ref rA, .ref rX, .int lnn, .ref rV, .ref rW, .int sl, .ref rC, .ref rF, .ref rQ, .ref rK, .ref rR, .ref rD]))] := hD.sub [0] (by decide) rfl
      exact W.iret (v := (-1)) hx hb hr (fun t9 ht9 hW9 => ⟨⟨(-1), (), rfl, by first | exact (if_neg (fun h9 => c_5 h9.1)).symm | exact (if_neg (fun h9 => c_25 h9.2.2)).symm | exact (if_neg (fun h9 => h9.2.1 c_12)).symm, ⟨by rw [ht9]; exact hP9, hD9⟩⟩, hS.F ht9⟩) hS.2.2 dX9_sheet_29
    · refine lv_iload hx hb dX9_sheet_15 (lv_at hl 4 rfl) ?_
      refine lv_i2l (v := s2.toInt64) hx hb dX9_sheet_17 (rfl) ?_
      refine lv_lconst (v := 1) hx hb dX9_sheet_18 (by decide) ?_
      refine lv_ldc2 (v := 1000) hx hb hown (hts (.constantLong RX9 165 (1000)) (by decide +kernel)) dX9_sheet_19 ?_
      refine rSi hE ⟨hx, hb, hml, hown, hts⟩ (c_X9_in l E s2.toInt64 1 1000 ) (va_cwS 3 hts gX9_sheet_X9_in rfl rfl rfl (by decide +kernel) ⟨Nat.le_of_ble_eq_true rfl, Nat.le_of_ble_eq_true rfl⟩) (hP.sub [] rfl) rfl hl.1 rfl (Nat.le_of_ble_eq_true rfl) dX9_sheet_22 ⟨(Nat.zero_le _), (Nat.zero_le _)⟩ ?_
      rw [show fIn s2.toInt64 1 1000 = fWi s2 1 1000 from fIn_c (rfl) (by decide) (by decide)]
      refine lv_if_ne (tgt := 30) hx hb dX9_sheet_25 (by decide) (fun c_25 => ?_) (fun c_25 => ?_)
      · have c_25 := fWi_1 c_25
        refine lv_iload_n hx hb dX9_sheet_30 rfl (lv_at hl 3 rfl) ?_
        refine lv_if_ge (tgt := 37) hx hb dX9_sheet_31 (by decide) (fun c_31 => by exfalso; exact hno.elim (fun h9 => h9 ⟨c_5, c_12, c_25⟩) (fun h9 => absurd h9 (Int32.not_lt.mpr c_31))) (fun c_31 => ?_)
        refine lv_bipush (v := (-14)) hx hb dX9_sheet_34 (by decide) ?_
        have hP9 : va_P E.1 vwCl [(m0, .inr (9, [.int sh, .ref rO, .ref rU, .ref rT, .int rg, .ref rS, .ref rB, .ref rP, .ref rG, .long ab0, .long be0, .int mk, .ref rM, .int md, .ref rN, .ref rL, .ref rZ, .ref rE, .ref rI, .int hc, .ref rA, .ref rX, .int lnn, .ref rV, .ref rW, .int sl, .ref rC, .ref rF, .ref rQ, .ref rK, .ref rR, .ref rD]))] s.heap := hP.sub [0] rfl
        have hD9 : va_D A [(m0, .inr (9, [.int sh, .ref rO, .ref rU, .ref rT, .int rg, .ref rS, .ref rB, .ref rP, .ref rG, .long ab0, .long be0, .int mk, .ref rM, .int md, .ref rN, .ref rL, .ref rZ, .ref rE, .ref rI, .int hc, .ref rA, .ref rX, .int lnn, .ref rV, .ref rW, .int sl, .ref rC, .ref rF, .ref rQ, .ref rK, .ref rR, .ref rD]))] := hD.sub [0] (by decide) rfl
        exact W.iret (v := (-14)) hx hb hr (fun t9 ht9 hW9 => ⟨⟨(-14), (), rfl, (if_pos ⟨c_5, c_12, c_25⟩).symm, ⟨by rw [ht9]; exact hP9, hD9⟩⟩, hS.F ht9⟩) hS.2.2 dX9_sheet_36
      · have c_25 := fWi_0 c_25
        refine lv_iconst (v := (-1)) hx hb dX9_sheet_28 (by decide) ?_
        have hP9 : va_P E.1 vwCl [(m0, .inr (9, [.int sh, .ref rO, .ref rU, .ref rT, .int rg, .ref rS, .ref rB, .ref rP, .ref rG, .long ab0, .long be0, .int mk, .ref rM, .int md, .ref rN, .ref rL, .ref rZ, .ref rE, .ref rI, .int hc, .ref rA, .ref rX, .int lnn, .ref rV, .ref rW, .int sl, .ref rC, .ref rF, .ref rQ, .ref rK, .ref rR, .ref rD]))] s.heap := hP.sub [0] rfl
        have hD9 : va_D A [(m0, .inr (9, [.int sh, .ref rO, .ref rU, .ref rT, .int rg, .ref rS, .ref rB, .ref rP, .ref rG, .long ab0, .long be0, .int mk, .ref rM, .int md, .ref rN, .ref rL, .ref rZ, .ref rE, .ref rI, .int hc, .ref rA, .ref rX, .int lnn, .ref rV, .ref rW, .int sl, .ref rC, .ref rF, .ref rQ, .ref rK, .ref rR, .ref rD]))] := hD.sub [0] (by decide) rfl
        exact W.iret (v := (-1)) hx hb hr (fun t9 ht9 hW9 => ⟨⟨(-1), (), rfl, by first | exact (if_neg (fun h9 => c_5 h9.1)).symm | exact (if_neg (fun h9 => c_25 h9.2.2)).symm | exact (if_neg (fun h9 => h9.2.1 c_12)).symm, ⟨by rw [ht9]; exact hP9, hD9⟩⟩, hS.F ht9⟩) hS.2.2 dX9_sheet_29
set_option maxHeartbeats 1000000 in
set_option maxRecDepth 100000 in
theorem c_X9_sheet_yes (l : Launch) (E : EnvT) (sz : Nat) (m0 : Nat) (sh : Int32) (rO : Nat) (rU : Nat) (rT : Nat) (rg : Int32) (rS : Nat) (rB : Nat) (rP : Nat) (rG : Nat) (ab0 : Int64) (be0 : Int64) (mk : Int32) (rM : Nat) (md : Int32) (rN : Nat) (rL : Nat) (rZ : Nat) (rE : Nat) (rI : Nat) (hc : Int32) (rA : Nat) (rX : Nat) (lnn : Int32) (rV : Nat) (rW : Nat) (sl : Int32) (rC : Nat) (rF : Nat) (rQ : Nat) (rK : Nat) (rR : Nat) (rD : Nat) (La : Nat → Int32) (Sz : Nat → Nat) (Sp : Nat → Nat) (It : Nat → Int32) (kk : Nat) (l2 : Int32) (n2 : Nat) (s2 : Nat) (hk : kk < 4) (hl2 : 0 ≤ l2 ∧ l2 ≤ 2) (hn2 : n2 ≤ 200) (hs1 : 1 ≤ s2) (hs2 : s2 ≤ 1000) : Met l yX9_sheet wsX9_sheet ({ frames := 2, cells := 0, slots := 0, locals := 46 }) (va_Pc [.ref m0, .int (nI kk), .int l2, .int (nI n2), .int (nI s2)] (PW E [(m0, .inr (9, [.int sh, .ref rO, .ref rU, .ref rT, .int rg, .ref rS, .ref rB, .ref rP, .ref rG, .long ab0, .long be0, .int mk, .ref rM, .int md, .ref rN, .ref rL, .ref rZ, .ref rE, .ref rI, .int hc, .ref rA, .ref rX, .int lnn, .ref rV, .ref rW, .int sl, .ref rC, .ref rF, .ref rQ, .ref rK, .ref rR, .ref rD])), (rL, .inl (E.2 1, 4, .inl La)), (rZ, .inl (E.2 1, 4, .inl (nA Sz))), (rE, .inl (E.2 1, 4, .inl (nA Sp))), (rI, .inl (E.2 1, 800, .inl It))] sz)) (va_Qi (fun (r : Int32) (uu : Unit) => r = nI n2) (fun (uu : Unit) t => BW E (va_A [(m0, .inr (9, [.int sh, .ref rO, .ref rU, .ref rT, .int rg, .ref rS, .ref rB, .ref rP, .ref rG, .long ab0, .long be0, .int mk, .ref rM, .int md, .ref rN, .ref rL, .ref rZ, .ref rE, .ref rI, .int hc, .ref rA, .ref rX, .int lnn, .ref rV, .ref rW, .int sl, .ref rC, .ref rF, .ref rQ, .ref rK, .ref rR, .ref rD])), (rL, .inl (E.2 1, 4, .inl La)), (rZ, .inl (E.2 1, 4, .inl (nA Sz))), (rE, .inl (E.2 1, 4, .inl (nA Sp))), (rI, .inl (E.2 1, 800, .inl It))] sz) [(m0, .inr (9, [.int sh, .ref rO, .ref rU, .ref rT, .int rg, .ref rS, .ref rB, .ref rP, .ref rG, .long ab0, .long be0, .int mk, .ref rM, .int md, .ref rN, .ref rL, .ref rZ, .ref rE, .ref rI, .int hc, .ref rA, .ref rX, .int lnn, .ref rV, .ref rW, .int sl, .ref rC, .ref rF, .ref rQ, .ref rK, .ref rR, .ref rD])), (rL, .inl (E.2 1, 4, .inl (upd La kk l2))), (rZ, .inl (E.2 1, 4, .inl (nA (updN Sz kk n2)))), (rE, .inl (E.2 1, 4, .inl (nA (updN Sp kk s2)))), (rI, .inl (E.2 1, 800, .inl (rowS It kk (fun _ => (0 : Int32)) 200)))] t) (va_A [(m0, .inr (9, [.int sh, .ref rO, .ref rU, .ref rT, .int rg, .ref rS, .ref rB, .ref rP, .ref rG, .long ab0, .long be0, .int mk, .ref rM, .int md, .ref rN, .ref rL, .ref rZ, .ref rE, .ref rI, .int hc, .ref rA, .ref rX, .int lnn, .ref rV, .ref rW, .int sl, .ref rC, .ref rF, .ref rQ, .ref rK, .ref rR, .ref rD])), (rL, .inl (E.2 1, 4, .inl La)), (rZ, .inl (E.2 1, 4, .inl (nA Sz))), (rE, .inl (E.2 1, 4, .inl (nA Sp))), (rI, .inl (E.2 1, 800, .inl It))] sz)) 0 0 (va_A [(m0, .inr (9, [.int sh, .ref rO, .ref rU, .ref rT, .int rg, .ref rS, .ref rB, .ref rP, .ref rG, .long ab0, .long be0, .int mk, .ref rM, .int md, .ref rN, .ref rL, .ref rZ, .ref rE, .ref rI, .int hc, .ref rA, .ref rX, .int lnn, .ref rV, .ref rW, .int sl, .ref rC, .ref rF, .ref rQ, .ref rK, .ref rR, .ref rD])), (rL, .inl (E.2 1, 4, .inl La)), (rZ, .inl (E.2 1, 4, .inl (nA Sz))), (rE, .inl (E.2 1, 4, .inl (nA Sp))), (rI, .inl (E.2 1, 800, .inl It))] sz) := by
  refine Met.ofW (cc := cX9_sheet) (maxL := 6) (ret := (some .int)) (by decide +kernel) rfl ?_
  intro p e s m args below meth c s₁ B hml hv
  obtain ⟨rfl, hsz, hP, hE, hD0⟩ := hv
  have hx := B.exec
  have hb := B.bytes
  have hr := B.returns
  have hts := atoms_spec (ws := wsX9_sheet) B.pre
  have hown : s.vm.findClass RX9 = some m.cls := findClass_of_methodNamed B.named
  have hlocks := B.notSynchronized
  have hK := hE.1
  have hNN := hE.2.1
  have hinX9 : ∀ w ∈ wsX90, w ∈ wsX9_sheet := fun w h => List.mem_cons_of_mem _ (List.mem_append_right _ h)
  subst hsz
  have hD := hD0.self (sz := s.heap.size)
  generalize hAe : va_A [(m0, .inr (9, [.int sh, .ref rO, .ref rU, .ref rT, .int rg, .ref rS, .ref rB, .ref rP, .ref rG, .long ab0, .long be0, .int mk, .ref rM, .int md, .ref rN, .ref rL, .ref rZ, .ref rE, .ref rI, .int hc, .ref rA, .ref rX, .int lnn, .ref rV, .ref rW, .int sl, .ref rC, .ref rF, .ref rQ, .ref rK, .ref rR, .ref rD])), (rL, .inl (E.2 1, 4, .inl La)), (rZ, .inl (E.2 1, 4, .inl (nA Sz))), (rE, .inl (E.2 1, 4, .inl (nA Sp))), (rI, .inl (E.2 1, 800, .inl It))] s.heap.size = A at hD ⊢
  have hA : ∀ q : Nat, s.heap.size ≤ q → A q := fun q h => by rw [← hAe]; exact Or.inr h
  have hS : va_S A s.heap s.heap [] := va_S.rf
  have hl := lv_entry ([.ref m0, .int (nI kk), .int l2, .int (nI n2), .int (nI s2)]) (n := 6) (Nat.le_of_ble_eq_true rfl)
  rw [lg_entry_eq]
  generalize (lg_sl ([.ref m0, .int (nI kk), .int l2, .int (nI n2), .int (nI s2)]) ++ List.replicate (6 - (lg_sl ([.ref m0, .int (nI kk), .int l2, .int (nI n2), .int (nI s2)])).length) Slot.unset).toArray = ls at hl ⊢
  have hl : lv_has ls 6 [(0, .ref m0), (1, .int (nI kk)), (2, .int l2), (3, .int (nI n2)), (4, .int (nI s2))] := hl
  refine lv_iload_n hx hb dX9_sheet_0 rfl (lv_at hl 1 rfl) ?_
  refine lv_iload_n hx hb dX9_sheet_1 rfl (lv_at hl 2 rfl) ?_
  refine rSi hE ⟨hx, hb, hml, hown, hts⟩ (c_X9_isSheet l E (nI kk) l2 ) (va_cwS 2 hts gX9_sheet_X9_isSheet rfl rfl rfl (by decide +kernel) ⟨Nat.le_of_ble_eq_true rfl, Nat.le_of_ble_eq_true rfl⟩) (hP.sub [] rfl) rfl hl.1 rfl (Nat.le_of_ble_eq_true rfl) dX9_sheet_2 ⟨(Nat.zero_le _), (Nat.zero_le _)⟩ ?_
  refine lv_if_eq (tgt := 28) hx hb dX9_sheet_5 (by decide) (fun c_5 => by exfalso; have c_5 := fSh_0 c_5; exact c_5 ⟨⟨nI_pos' (by omega), nI_le (b := 3) (by omega) (by omega)⟩, hl2⟩) (fun c_5 => ?_)
  have c_5 := fSh_1 c_5
  refine lv_iload_n hx hb dX9_sheet_8 rfl (lv_at hl 3 rfl) ?_
  refine lv_sipush (v := 200) hx hb dX9_sheet_9 (by decide) ?_
  refine lv_icmp_gt (tgt := 28) hx hb dX9_sheet_12 (by decide) (fun c_12 => by exfalso; have c_12 : 200 < n2 := (nI_ltI (a := 200) (b := n2) (by omega) (by omega)).mp c_12; omega) (fun c_12 => ?_)
  have c_12 : ¬ 200 < n2 := fun h9 => c_12 ((nI_ltI (a := 200) (b := n2) (by omega) (by omega)).mpr h9)
  refine lv_iload hx hb dX9_sheet_15 (lv_at hl 4 rfl) ?_
  refine lv_i2l (v := lN s2) hx hb dX9_sheet_17 (nI_l (by omega)) ?_
  refine lv_lconst (v := 1) hx hb dX9_sheet_18 (by decide) ?_
  refine lv_ldc2 (v := 1000) hx hb hown (hts (.constantLong RX9 165 (1000)) (by decide +kernel)) dX9_sheet_19 ?_
  refine rSi hE ⟨hx, hb, hml, hown, hts⟩ (c_X9_in l E (lN s2) 1 1000 ) (va_cwS 3 hts gX9_sheet_X9_in rfl rfl rfl (by decide +kernel) ⟨Nat.le_of_ble_eq_true rfl, Nat.le_of_ble_eq_true rfl⟩) (hP.sub [] rfl) rfl hl.1 rfl (Nat.le_of_ble_eq_true rfl) dX9_sheet_22 ⟨(Nat.zero_le _), (Nat.zero_le _)⟩ ?_
  rw [show fIn (lN s2) 1 1000 = fWi (nI s2) 1 1000 from fIn_c (nI_l (by omega)) (by decide) (by decide)]
  refine lv_if_ne (tgt := 30) hx hb dX9_sheet_25 (by decide) (fun c_25 => ?_) (fun c_25 => by exfalso; have c_25 := fWi_0 c_25; exact c_25 ⟨nI_le (a := 1) (by omega) (by omega), nI_le (b := 1000) (by omega) (by omega)⟩)
  have c_25 := fWi_1 c_25
  refine lv_iload_n hx hb dX9_sheet_30 rfl (lv_at hl 3 rfl) ?_
  refine lv_if_ge (tgt := 37) hx hb dX9_sheet_31 (by decide) (fun c_31 => ?_) (fun c_31 => by exfalso; have c_31 : ¬ 0 ≤ n2 := fun h9 => c_31 ((nI_leI (a := 0) (b := n2) (by omega) (by omega)).mpr h9); omega)
  have c_31 : 0 ≤ n2 := (nI_leI (a := 0) (b := n2) (by omega) (by omega)).mp c_31
  refine lv_aload_n hx hb dX9_sheet_37 rfl (lv_at hl 0 rfl) ?_
  refine va_get (D := E.1) (ci := 9) (v := .ref rL) (C := RX9) (T := TX9) (N := 32) hx hb hts hinX9 hown hK hP 0 rfl rfl 15 (by decide) (hts (.fieldLink RX9 42 "WornRingsModel" "lanes" "[I") (by decide +kernel)) (fun _ h9 => h9) rfl dX9_sheet_38 ?_
  refine lv_iload_n hx hb dX9_sheet_41 rfl (lv_at hl 1 rfl) ?_
  refine lv_iload_n hx hb dX9_sheet_42 rfl (lv_at hl 2 rfl) ?_
  refine va_iast hx hb hK hP hD hS 1 1 rfl rfl (vp_in_nI (by omega) (by omega)) dX9_sheet_43 (fun H locs hP hD hS => ?_)
  rw [nI_clamp (n := kk) (by omega)] at hP hD
  have hP : va_P E.1 vwCl [(m0, .inr (9, [.int sh, .ref rO, .ref rU, .ref rT, .int rg, .ref rS, .ref rB, .ref rP, .ref rG, .long ab0, .long be0, .int mk, .ref rM, .int md, .ref rN, .ref rL, .ref rZ, .ref rE, .ref rI, .int hc, .ref rA, .ref rX, .int lnn, .ref rV, .ref rW, .int sl, .ref rC, .ref rF, .ref rQ, .ref rK, .ref rR, .ref rD])), (rL, .inl (E.2 1, 4, .inl (upd La kk l2))), (rZ, .inl (E.2 1, 4, .inl (nA Sz))), (rE, .inl (E.2 1, 4, .inl (nA Sp))), (rI, .inl (E.2 1, 800, .inl It))] H := hP
  have hD : va_D A [(m0, .inr (9, [.int sh, .ref rO, .ref rU, .ref rT, .int rg, .ref rS, .ref rB, .ref rP, .ref rG, .long ab0, .long be0, .int mk, .ref rM, .int md, .ref rN, .ref rL, .ref rZ, .ref rE, .ref rI, .int hc, .ref rA, .ref rX, .int lnn, .ref rV, .ref rW, .int sl, .ref rC, .ref rF, .ref rQ, .ref rK, .ref rR, .ref rD])), (rL, .inl (E.2 1, 4, .inl (upd La kk l2))), (rZ, .inl (E.2 1, 4, .inl (nA Sz))), (rE, .inl (E.2 1, 4, .inl (nA Sp))), (rI, .inl (E.2 1, 800, .inl It))] := hD
  refine lv_aload_n hx hb dX9_sheet_44 rfl (lv_at hl 0 rfl) ?_
  refine va_get (D := E.1) (ci := 9) (v := .ref rZ) (C := RX9) (T := TX9) (N := 32) hx hb hts hinX9 hown hK hP 0 rfl rfl 16 (by decide) (hts (.fieldLink RX9 45 "WornRingsModel" "sizes" "[I") (by decide +kernel)) (fun _ h9 => h9) rfl dX9_sheet_45 ?_
  refine lv_iload_n hx hb dX9_sheet_48 rfl (lv_at hl 1 rfl) ?_
  refine lv_iload_n hx hb dX9_sheet_49 rfl (lv_at hl 3 rfl) ?_
  refine va_iast hx hb hK hP hD hS 2 1 rfl rfl (vp_in_nI (by omega) (by omega)) dX9_sheet_50 (fun H locs hP hD hS => ?_)
  rw [nI_clamp (n := kk) (by omega)] at hP hD
  rw [show upd (nA Sz) kk (nI n2) = nA (updN Sz kk n2) from upd_nA _ _ _] at hP hD
  have hP : va_P E.1 vwCl [(m0, .inr (9, [.int sh, .ref rO, .ref rU, .ref rT, .int rg, .ref rS, .ref rB, .ref rP, .ref rG, .long ab0, .long be0, .int mk, .ref rM, .int md, .ref rN, .ref rL, .ref rZ, .ref rE, .ref rI, .int hc, .ref rA, .ref rX, .int lnn, .ref rV, .ref rW, .int sl, .ref rC, .ref rF, .ref rQ, .ref rK, .ref rR, .ref rD])), (rL, .inl (E.2 1, 4, .inl (upd La kk l2))), (rZ, .inl (E.2 1, 4, .inl (nA (updN Sz kk n2)))), (rE, .inl (E.2 1, 4, .inl (nA Sp))), (rI, .inl (E.2 1, 800, .inl It))] H := hP
  have hD : va_D A [(m0, .inr (9, [.int sh, .ref rO, .ref rU, .ref rT, .int rg, .ref rS, .ref rB, .ref rP, .ref rG, .long ab0, .long be0, .int mk, .ref rM, .int md, .ref rN, .ref rL, .ref rZ, .ref rE, .ref rI, .int hc, .ref rA, .ref rX, .int lnn, .ref rV, .ref rW, .int sl, .ref rC, .ref rF, .ref rQ, .ref rK, .ref rR, .ref rD])), (rL, .inl (E.2 1, 4, .inl (upd La kk l2))), (rZ, .inl (E.2 1, 4, .inl (nA (updN Sz kk n2)))), (rE, .inl (E.2 1, 4, .inl (nA Sp))), (rI, .inl (E.2 1, 800, .inl It))] := hD
  refine lv_aload_n hx hb dX9_sheet_51 rfl (lv_at hl 0 rfl) ?_
  refine va_get (D := E.1) (ci := 9) (v := .ref rE) (C := RX9) (T := TX9) (N := 32) hx hb hts hinX9 hown hK hP 0 rfl rfl 17 (by decide) (hts (.fieldLink RX9 48 "WornRingsModel" "steps" "[I") (by decide +kernel)) (fun _ h9 => h9) rfl dX9_sheet_52 ?_
  refine lv_iload_n hx hb dX9_sheet_55 rfl (lv_at hl 1 rfl) ?_
  refine lv_iload hx hb dX9_sheet_56 (lv_at hl 4 rfl) ?_
  refine va_iast hx hb hK hP hD hS 3 1 rfl rfl (vp_in_nI (by omega) (by omega)) dX9_sheet_58 (fun H locs hP hD hS => ?_)
  rw [nI_clamp (n := kk) (by omega)] at hP hD
  rw [show upd (nA Sp) kk (nI s2) = nA (updN Sp kk s2) from upd_nA _ _ _] at hP hD
  have hP : va_P E.1 vwCl [(m0, .inr (9, [.int sh, .ref rO, .ref rU, .ref rT, .int rg, .ref rS, .ref rB, .ref rP, .ref rG, .long ab0, .long be0, .int mk, .ref rM, .int md, .ref rN, .ref rL, .ref rZ, .ref rE, .ref rI, .int hc, .ref rA, .ref rX, .int lnn, .ref rV, .ref rW, .int sl, .ref rC, .ref rF, .ref rQ, .ref rK, .ref rR, .ref rD])), (rL, .inl (E.2 1, 4, .inl (upd La kk l2))), (rZ, .inl (E.2 1, 4, .inl (nA (updN Sz kk n2)))), (rE, .inl (E.2 1, 4, .inl (nA (updN Sp kk s2)))), (rI, .inl (E.2 1, 800, .inl It))] H := hP
  have hD : va_D A [(m0, .inr (9, [.int sh, .ref rO, .ref rU, .ref rT, .int rg, .ref rS, .ref rB, .ref rP, .ref rG, .long ab0, .long be0, .int mk, .ref rM, .int md, .ref rN, .ref rL, .ref rZ, .ref rE, .ref rI, .int hc, .ref rA, .ref rX, .int lnn, .ref rV, .ref rW, .int sl, .ref rC, .ref rF, .ref rQ, .ref rK, .ref rR, .ref rD])), (rL, .inl (E.2 1, 4, .inl (upd La kk l2))), (rZ, .inl (E.2 1, 4, .inl (nA (updN Sz kk n2)))), (rE, .inl (E.2 1, 4, .inl (nA (updN Sp kk s2)))), (rI, .inl (E.2 1, 800, .inl It))] := hD
  refine lv_iconst (v := 0) hx hb dX9_sheet_59 (by decide) ?_
  refine lv_istore (lv' := [(5, .int 0), (0, .ref m0), (1, .int (nI kk)), (2, .int l2), (3, .int (nI n2)), (4, .int (nI s2))]) hx hb dX9_sheet_60 hl (by decide) rfl (fun ls hl => ?_)
  refine (fun (lp62 : ∀ (n9 : Nat) (i : Nat) (H : Heap) (locs : List Loc) (ls : Array Slot), (200 - i) < n9 → (i ≤ 200) → va_P E.1 vwCl [(m0, .inr (9, [.int sh, .ref rO, .ref rU, .ref rT, .int rg, .ref rS, .ref rB, .ref rP, .ref rG, .long ab0, .long be0, .int mk, .ref rM, .int md, .ref rN, .ref rL, .ref rZ, .ref rE, .ref rI, .int hc, .ref rA, .ref rX, .int lnn, .ref rV, .ref rW, .int sl, .ref rC, .ref rF, .ref rQ, .ref rK, .ref rR, .ref rD])), (rL, .inl (E.2 1, 4, .inl (upd La kk l2))), (rZ, .inl (E.2 1, 4, .inl (nA (updN Sz kk n2)))), (rE, .inl (E.2 1, 4, .inl (nA (updN Sp kk s2)))), (rI, .inl (E.2 1, 800, .inl (rowS It kk (fun _ => (0 : Int32)) i)))] H → va_D A [(m0, .inr (9, [.int sh, .ref rO, .ref rU, .ref rT, .int rg, .ref rS, .ref rB, .ref rP, .ref rG, .long ab0, .long be0, .int mk, .ref rM, .int md, .ref rN, .ref rL, .ref rZ, .ref rE, .ref rI, .int hc, .ref rA, .ref rX, .int lnn, .ref rV, .ref rW, .int sl, .ref rC, .ref rF, .ref rQ, .ref rK, .ref rR, .ref rD])), (rL, .inl (E.2 1, 4, .inl (upd La kk l2))), (rZ, .inl (E.2 1, 4, .inl (nA (updN Sz kk n2)))), (rE, .inl (E.2 1, 4, .inl (nA (updN Sp kk s2)))), (rI, .inl (E.2 1, 800, .inl (rowS It kk (fun _ => (0 : Int32)) i)))] → va_S A s.heap H locs → lv_has ls 6 [(0, .ref m0), (1, .int (nI kk)), (2, .int l2), (3, .int (nI n2)), (4, .int (nI s2)), (5, .int (nI i))] → W p l e _ s m _ below meth c H locs _ _ _ (F0 m 62 ls [])) => lp62 (201) 0 _ _ _ (by omega) (by omega) (by rw [rowS_0]; exact hP.sub [0, 1, 2, 3, 4] rfl) (by rw [rowS_0]; exact hD.sub [0, 1, 2, 3, 4] (by decide) rfl) hS (lv_sub hl [1, 2, 3, 4, 5, 0] rfl)) ?_
  intro n62
  induction n62 with
  | zero => intro i H locs ls h0; exact absurd (by assumption) (Nat.not_lt_zero _)
  | succ n62 ih62 =>
    intro i H locs ls hmu62 hi hP hD hS hl
    refine lv_iload hx hb dX9_sheet_62 (lv_at hl 5 rfl) ?_
    refine lv_sipush (v := 200) hx hb dX9_sheet_64 (by decide) ?_
    refine lv_icmp_ge (tgt := 90) hx hb dX9_sheet_67 (by decide) (fun c_67 => ?_) (fun c_67 => ?_)
    · have c_67 : 200 ≤ i := (nI_leI (a := 200) (b := i) (by omega) (by omega)).mp c_67
      refine lv_iload_n hx hb dX9_sheet_90 rfl (lv_at hl 3 rfl) ?_
      have e9 : ([(m0, .inr (9, [.int sh, .ref rO, .ref rU, .ref rT, .int rg, .ref rS, .ref rB, .ref rP, .ref rG, .long ab0, .long be0, .int mk, .ref rM, .int md, .ref rN, .ref rL, .ref rZ, .ref rE, .ref rI, .int hc, .ref rA, .ref rX, .int lnn, .ref rV, .ref rW, .int sl, .ref rC, .ref rF, .ref rQ, .ref rK, .ref rR, .ref rD])), (rL, .inl (E.2 1, 4, .inl (upd La kk l2))), (rZ, .inl (E.2 1, 4, .inl (nA (updN Sz kk n2)))), (rE, .inl (E.2 1, 4, .inl (nA (updN Sp kk s2)))), (rI, .inl (E.2 1, 800, .inl (rowS It kk (fun _ => (0 : Int32)) 200)))] : va_W) = [(m0, .inr (9, [.int sh, .ref rO, .ref rU, .ref rT, .int rg, .ref rS, .ref rB, .ref rP, .ref rG, .long ab0, .long be0, .int mk, .ref rM, .int md, .ref rN, .ref rL, .ref rZ, .ref rE, .ref rI, .int hc, .ref rA, .ref rX, .int lnn, .ref rV, .ref rW, .int sl, .ref rC, .ref rF, .ref rQ, .ref rK, .ref rR, .ref rD])), (rL, .inl (E.2 1, 4, .inl (upd La kk l2))), (rZ, .inl (E.2 1, 4, .inl (nA (updN Sz kk n2)))), (rE, .inl (E.2 1, 4, .inl (nA (updN Sp kk s2)))), (rI, .inl (E.2 1, 800, .inl (rowS It kk (fun _ => (0 : Int32)) i)))] := by rw [show i = 200 by omega]
      have hP9 : va_P E.1 vwCl [(m0, .inr (9, [.int sh, .ref rO, .ref rU, .ref rT, .int rg, .ref rS, .ref rB, .ref rP, .ref rG, .long ab0, .long be0, .int mk, .ref rM, .int md, .ref rN, .ref rL, .ref rZ, .ref rE, .ref rI, .int hc, .ref rA, .ref rX, .int lnn, .ref rV, .ref rW, .int sl, .ref rC, .ref rF, .ref rQ, .ref rK, .ref rR, .ref rD])), (rL, .inl (E.2 1, 4, .inl (upd La kk l2))), (rZ, .inl (E.2 1, 4, .inl (nA (updN Sz kk n2)))), (rE, .inl (E.2 1, 4, .inl (nA (updN Sp kk s2)))), (rI, .inl (E.2 1, 800, .inl (rowS It kk (fun _ => (0 : Int32)) 200)))] H := by rw [e9]; exact hP.sub [0, 1, 2, 3, 4] rfl
      have hD9 : va_D A [(m0, .inr (9, [.int sh, .ref rO, .ref rU, .ref rT, .int rg, .ref rS, .ref rB, .ref rP, .ref rG, .long ab0, .long be0, .int mk, .ref rM, .int md, .ref rN, .ref rL, .ref rZ, .ref rE, .ref rI, .int hc, .ref rA, .ref rX, .int lnn, .ref rV, .ref rW, .int sl, .ref rC, .ref rF, .ref rQ, .ref rK, .ref rR, .ref rD])), (rL, .inl (E.2 1, 4, .inl (upd La kk l2))), (rZ, .inl (E.2 1, 4, .inl (nA (updN Sz kk n2)))), (rE, .inl (E.2 1, 4, .inl (nA (updN Sp kk s2)))), (rI, .inl (E.2 1, 800, .inl (rowS It kk (fun _ => (0 : Int32)) 200)))] := by rw [e9]; exact hD.sub [0, 1, 2, 3, 4] (by decide) rfl
      exact W.iret (v := nI n2) hx hb hr (fun t9 ht9 hW9 => ⟨⟨nI n2, (), rfl, rfl, ⟨by rw [ht9]; exact hP9, hD9⟩⟩, hS.F ht9⟩) hS.2.2 dX9_sheet_91
    · have c_67 : ¬ 200 ≤ i := fun h9 => c_67 ((nI_leI (a := 200) (b := i) (by omega) (by omega)).mpr h9)
      refine lv_aload_n hx hb dX9_sheet_70 rfl (lv_at hl 0 rfl) ?_
      refine va_get (D := E.1) (ci := 9) (v := .ref rI) (C := RX9) (T := TX9) (N := 32) hx hb hts hinX9 hown hK hP 0 rfl rfl 18 (by decide) (hts (.fieldLink RX9 51 "WornRingsModel" "items" "[I") (by decide +kernel)) (fun _ h9 => h9) rfl dX9_sheet_71 ?_
      refine lv_sipush (v := 200) hx hb dX9_sheet_74 (by decide) ?_
      refine lv_iload_n hx hb dX9_sheet_77 rfl (lv_at hl 1 rfl) ?_
      refine lv_imul hx hb dX9_sheet_78 ?_
      rw [show ((200 : Int32) * (nI kk) : Int32) = nI (200 * kk) from pk_mul 200 kk]
      refine lv_iload hx hb dX9_sheet_79 (lv_at hl 5 rfl) ?_
      refine lv_iadd hx hb dX9_sheet_81 ?_
      rw [show ((nI (200 * kk)) + (nI i) : Int32) = nI ((200 * kk) + i) from nI_add (200 * kk) i]
      refine lv_iconst (v := 0) hx hb dX9_sheet_82 (by decide) ?_
      refine va_iast hx hb hK hP hD hS 4 1 rfl rfl (vp_in_nI (by omega) (by omega)) dX9_sheet_83 (fun H locs hP hD hS => ?_)
      rw [nI_clamp (n := (200 * kk) + i) (by omega)] at hP hD
      have hP : va_P E.1 vwCl [(m0, .inr (9, [.int sh, .ref rO, .ref rU, .ref rT, .int rg, .ref rS, .ref rB, .ref rP, .ref rG, .long ab0, .long be0, .int mk, .ref rM, .int md, .ref rN, .ref rL, .ref rZ, .ref rE, .ref rI, .int hc, .ref rA, .ref rX, .int lnn, .ref rV, .ref rW, .int sl, .ref rC, .ref rF, .ref rQ, .ref rK, .ref rR, .ref rD])), (rL, .inl (E.2 1, 4, .inl (upd La kk l2))), (rZ, .inl (E.2 1, 4, .inl (nA (updN Sz kk n2)))), (rE, .inl (E.2 1, 4, .inl (nA (updN Sp kk s2)))), (rI, .inl (E.2 1, 800, .inl (upd (rowS It kk (fun _ => (0 : Int32)) i) ((200 * kk) + i) (0 : Int32))))] H := hP
      have hD : va_D A [(m0, .inr (9, [.int sh, .ref rO, .ref rU, .ref rT, .int rg, .ref rS, .ref rB, .ref rP, .ref rG, .long ab0, .long be0, .int mk, .ref rM, .int md, .ref rN, .ref rL, .ref rZ, .ref rE, .ref rI, .int hc, .ref rA, .ref rX, .int lnn, .ref rV, .ref rW, .int sl, .ref rC, .ref rF, .ref rQ, .ref rK, .ref rR, .ref rD])), (rL, .inl (E.2 1, 4, .inl (upd La kk l2))), (rZ, .inl (E.2 1, 4, .inl (nA (updN Sz kk n2)))), (rE, .inl (E.2 1, 4, .inl (nA (updN Sp kk s2)))), (rI, .inl (E.2 1, 800, .inl (upd (rowS It kk (fun _ => (0 : Int32)) i) ((200 * kk) + i) (0 : Int32))))] := hD
      refine lv_iinc (v := nI (i + 1)) (lv' := [(5, .int (nI (i + 1))), (0, .ref m0), (1, .int (nI kk)), (2, .int l2), (3, .int (nI n2)), (4, .int (nI s2))]) hx hb dX9_sheet_84 hl (k := 5) rfl (nI_add i 1) (by decide) rfl (fun ls hl => ?_)
      refine lv_goto (tgt := 62) hx hb dX9_sheet_87 (by decide) ?_
      exact ih62 (i + 1) _ _ _ (by omega) (by omega) (by rw [← rowS_s]; exact hP.sub [0, 1, 2, 3, 4] rfl) (by rw [← rowS_s]; exact hD.sub [0, 1, 2, 3, 4] (by decide) rfl) hS (lv_sub hl [1, 2, 3, 4, 5, 0] rfl)
set_option maxHeartbeats 1000000 in
set_option maxRecDepth 100000 in
theorem c_X9_drop_no (l : Launch) (E : EnvT) (sz : Nat) (m0 : Nat) (sh : Int32) (rO : Nat) (rU : Nat) (rT : Nat) (rg : Int32) (rS : Nat) (rB : Nat) (rP : Nat) (rG : Nat) (ab0 : Int64) (be0 : Int64) (mk : Int32) (rM : Nat) (md : Int32) (rN : Nat) (rL : Nat) (rZ : Nat) (rE : Nat) (rI : Nat) (hc : Int32) (rA : Nat) (rX : Nat) (lnn : Int32) (rV : Nat) (rW : Nat) (sl : Int32) (rC : Nat) (rF : Nat) (rQ : Nat) (rK : Nat) (rR : Nat) (rD : Nat) (sv : Int32) (hno : ¬ (0 ≤ sv ∧ sv ≤ 3)) : Met l yX9_drop wsX9_drop ({ frames := 1, cells := 0, slots := 0, locals := 25 }) (va_Pc [.ref m0, .int sv] (PW E [(m0, .inr (9, [.int sh, .ref rO, .ref rU, .ref rT, .int rg, .ref rS, .ref rB, .ref rP, .ref rG, .long ab0, .long be0, .int mk, .ref rM, .int md, .ref rN, .ref rL, .ref rZ, .ref rE, .ref rI, .int hc, .ref rA, .ref rX, .int lnn, .ref rV, .ref rW, .int sl, .ref rC, .ref rF, .ref rQ, .ref rK, .ref rR, .ref rD]))] sz)) (va_Qi (fun (r : Int32) (uu : Unit) => r = -1) (fun (uu : Unit) t => BW E (va_A [(m0, .inr (9, [.int sh, .ref rO, .ref rU, .ref rT, .int rg, .ref rS, .ref rB, .ref rP, .ref rG, .long ab0, .long be0, .int mk, .ref rM, .int md, .ref rN, .ref rL, .ref rZ, .ref rE, .ref rI, .int hc, .ref rA, .ref rX, .int lnn, .ref rV, .ref rW, .int sl, .ref rC, .ref rF, .ref rQ, .ref rK, .ref rR, .ref rD]))] sz) [(m0, .inr (9, [.int sh, .ref rO, .ref rU, .ref rT, .int rg, .ref rS, .ref rB, .ref rP, .ref rG, .long ab0, .long be0, .int mk, .ref rM, .int md, .ref rN, .ref rL, .ref rZ, .ref rE, .ref rI, .int hc, .ref rA, .ref rX, .int lnn, .ref rV, .ref rW, .int sl, .ref rC, .ref rF, .ref rQ, .ref rK, .ref rR, .ref rD]))] t) (va_A [(m0, .inr (9, [.int sh, .ref rO, .ref rU, .ref rT, .int rg, .ref rS, .ref rB, .ref rP, .ref rG, .long ab0, .long be0, .int mk, .ref rM, .int md, .ref rN, .ref rL, .ref rZ, .ref rE, .ref rI, .int hc, .ref rA, .ref rX, .int lnn, .ref rV, .ref rW, .int sl, .ref rC, .ref rF, .ref rQ, .ref rK, .ref rR, .ref rD]))] sz)) 0 0 (va_A [(m0, .inr (9, [.int sh, .ref rO, .ref rU, .ref rT, .int rg, .ref rS, .ref rB, .ref rP, .ref rG, .long ab0, .long be0, .int mk, .ref rM, .int md, .ref rN, .ref rL, .ref rZ, .ref rE, .ref rI, .int hc, .ref rA, .ref rX, .int lnn, .ref rV, .ref rW, .int sl, .ref rC, .ref rF, .ref rQ, .ref rK, .ref rR, .ref rD]))] sz) := by
  refine Met.ofW (cc := cX9_drop) (maxL := 2) (ret := (some .int)) (by decide +kernel) rfl ?_
  intro p e s m args below meth c s₁ B hml hv
  obtain ⟨rfl, hsz, hP, hE, hD0⟩ := hv
  have hx := B.exec
  have hb := B.bytes
  have hr := B.returns
  have hts := atoms_spec (ws := wsX9_drop) B.pre
  have hown : s.vm.findClass RX9 = some m.cls := findClass_of_methodNamed B.named
  have hlocks := B.notSynchronized
  have hK := hE.1
  have hNN := hE.2.1
  subst hsz
  have hD := hD0.self (sz := s.heap.size)
  generalize hAe : va_A [(m0, .inr (9, [.int sh, .ref rO, .ref rU, .ref rT, .int rg, .ref rS, .ref rB, .ref rP, .ref rG, .long ab0, .long be0, .int mk, .ref rM, .int md, .ref rN, .ref rL, .ref rZ, .ref rE, .ref rI, .int hc, .ref rA, .ref rX, .int lnn, .ref rV, .ref rW, .int sl, .ref rC, .ref rF, .ref rQ, .ref rK, .ref rR, .ref rD]))] s.heap.size = A at hD ⊢
  have hA : ∀ q : Nat, s.heap.size ≤ q → A q := fun q h => by rw [← hAe]; exact Or.inr h
  have hS : va_S A s.heap s.heap [] := va_S.rf
  have hl := lv_entry ([.ref m0, .int sv]) (n := 2) (Nat.le_of_ble_eq_true rfl)
  rw [lg_entry_eq]
  generalize (lg_sl ([.ref m0, .int sv]) ++ List.replicate (2 - (lg_sl ([.ref m0, .int sv])).length) Slot.unset).toArray = ls at hl ⊢
  have hl : lv_has ls 2 [(0, .ref m0), (1, .int sv)] := hl
  refine lv_iload_n hx hb dX9_drop_0 rfl (lv_at hl 1 rfl) ?_
  refine lv_i2l (v := sv.toInt64) hx hb dX9_drop_1 (rfl) ?_
  refine lv_lconst (v := 0) hx hb dX9_drop_2 (by decide) ?_
  refine lv_ldc2 (v := 3) hx hb hown (hts (.constantLong RX9 108 (3)) (by decide +kernel)) dX9_drop_3 ?_
  refine rSi hE ⟨hx, hb, hml, hown, hts⟩ (c_X9_in l E sv.toInt64 0 3 ) (va_cwS 3 hts gX9_drop_X9_in rfl rfl rfl (by decide +kernel) ⟨Nat.le_of_ble_eq_true rfl, Nat.le_of_ble_eq_true rfl⟩) (hP.sub [] rfl) rfl hl.1 rfl (Nat.le_of_ble_eq_true rfl) dX9_drop_6 ⟨(Nat.zero_le _), (Nat.zero_le _)⟩ ?_
  rw [show fIn sv.toInt64 0 3 = fWi sv 0 3 from fIn_c (rfl) (by decide) (by decide)]
  refine lv_if_ne (tgt := 14) hx hb dX9_drop_9 (by decide) (fun c_9 => by exfalso; have c_9 := fWi_1 c_9; exact hno c_9) (fun c_9 => ?_)
  have c_9 := fWi_0 c_9
  refine lv_iconst (v := (-1)) hx hb dX9_drop_12 (by decide) ?_
  have hP9 : va_P E.1 vwCl [(m0, .inr (9, [.int sh, .ref rO, .ref rU, .ref rT, .int rg, .ref rS, .ref rB, .ref rP, .ref rG, .long ab0, .long be0, .int mk, .ref rM, .int md, .ref rN, .ref rL, .ref rZ, .ref rE, .ref rI, .int hc, .ref rA, .ref rX, .int lnn, .ref rV, .ref rW, .int sl, .ref rC, .ref rF, .ref rQ, .ref rK, .ref rR, .ref rD]))] s.heap := hP.sub [0] rfl
  have hD9 : va_D A [(m0, .inr (9, [.int sh, .ref rO, .ref rU, .ref rT, .int rg, .ref rS, .ref rB, .ref rP, .ref rG, .long ab0, .long be0, .int mk, .ref rM, .int md, .ref rN, .ref rL, .ref rZ, .ref rE, .ref rI, .int hc, .ref rA, .ref rX, .int lnn, .ref rV, .ref rW, .int sl, .ref rC, .ref rF, .ref rQ, .ref rK, .ref rR, .ref rD]))] := hD.sub [0] (by decide) rfl
  exact W.iret (v := (-1)) hx hb hr (fun t9 ht9 hW9 => ⟨⟨(-1), (), rfl, rfl, ⟨by rw [ht9]; exact hP9, hD9⟩⟩, hS.F ht9⟩) hS.2.2 dX9_drop_13
set_option maxHeartbeats 1000000 in
set_option maxRecDepth 100000 in
theorem c_X9_drop_yes (l : Launch) (E : EnvT) (sz : Nat) (m0 : Nat) (sh : Int32) (rO : Nat) (rU : Nat) (rT : Nat) (rg : Int32) (rS : Nat) (rB : Nat) (rP : Nat) (rG : Nat) (ab0 : Int64) (be0 : Int64) (mk : Int32) (rM : Nat) (md : Int32) (rN : Nat) (rL : Nat) (rZ : Nat) (rE : Nat) (rI : Nat) (hc : Int32) (rA : Nat) (rX : Nat) (lnn : Int32) (rV : Nat) (rW : Nat) (sl : Int32) (rC : Nat) (rF : Nat) (rQ : Nat) (rK : Nat) (rR : Nat) (rD : Nat) (La : Nat → Int32) (Sz : Nat → Nat) (kk : Nat) (hk : kk < 4) : Met l yX9_drop wsX9_drop ({ frames := 1, cells := 0, slots := 0, locals := 25 }) (va_Pc [.ref m0, .int (nI kk)] (PW E [(m0, .inr (9, [.int sh, .ref rO, .ref rU, .ref rT, .int rg, .ref rS, .ref rB, .ref rP, .ref rG, .long ab0, .long be0, .int mk, .ref rM, .int md, .ref rN, .ref rL, .ref rZ, .ref rE, .ref rI, .int hc, .ref rA, .ref rX, .int lnn, .ref rV, .ref rW, .int sl, .ref rC, .ref rF, .ref rQ, .ref rK, .ref rR, .ref rD])), (rL, .inl (E.2 1, 4, .inl La)), (rZ, .inl (E.2 1, 4, .inl (nA Sz)))] sz)) (va_Qi (fun (r : Int32) (uu : Unit) => r = if La kk < 0 then -11 else nI (Sz kk)) (fun (uu : Unit) t => BW E (va_A [(m0, .inr (9, [.int sh, .ref rO, .ref rU, .ref rT, .int rg, .ref rS, .ref rB, .ref rP, .ref rG, .long ab0, .long be0, .int mk, .ref rM, .int md, .ref rN, .ref rL, .ref rZ, .ref rE, .ref rI, .int hc, .ref rA, .ref rX, .int lnn, .ref rV, .ref rW, .int sl, .ref rC, .ref rF, .ref rQ, .ref rK, .ref rR, .ref rD])), (rL, .inl (E.2 1, 4, .inl La)), (rZ, .inl (E.2 1, 4, .inl (nA Sz)))] sz) [(m0, .inr (9, [.int sh, .ref rO, .ref rU, .ref rT, .int rg, .ref rS, .ref rB, .ref rP, .ref rG, .long ab0, .long be0, .int mk, .ref rM, .int md, .ref rN, .ref rL, .ref rZ, .ref rE, .ref rI, .int hc, .ref rA, .ref rX, .int lnn, .ref rV, .ref rW, .int sl, .ref rC, .ref rF, .ref rQ, .ref rK, .ref rR, .ref rD])), (rL, .inl (E.2 1, 4, .inl (if La kk < 0 then La else upd La kk (-1)))), (rZ, .inl (E.2 1, 4, .inl (nA Sz)))] t) (va_A [(m0, .inr (9, [.int sh, .ref rO, .ref rU, .ref rT, .int rg, .ref rS, .ref rB, .ref rP, .ref rG, .long ab0, .long be0, .int mk, .ref rM, .int md, .ref rN, .ref rL, .ref rZ, .ref rE, .ref rI, .int hc, .ref rA, .ref rX, .int lnn, .ref rV, .ref rW, .int sl, .ref rC, .ref rF, .ref rQ, .ref rK, .ref rR, .ref rD])), (rL, .inl (E.2 1, 4, .inl La)), (rZ, .inl (E.2 1, 4, .inl (nA Sz)))] sz)) 0 0 (va_A [(m0, .inr (9, [.int sh, .ref rO, .ref rU, .ref rT, .int rg, .ref rS, .ref rB, .ref rP, .ref rG, .long ab0, .long be0, .int mk, .ref rM, .int md, .ref rN, .ref rL, .ref rZ, .ref rE, .ref rI, .int hc, .ref rA, .ref rX, .int lnn, .ref rV, .ref rW, .int sl, .ref rC, .ref rF, .ref rQ, .ref rK, .ref rR, .ref rD])), (rL, .inl (E.2 1, 4, .inl La)), (rZ, .inl (E.2 1, 4, .inl (nA Sz)))] sz) := by
  refine Met.ofW (cc := cX9_drop) (maxL := 2) (ret := (some .int)) (by decide +kernel) rfl ?_
  intro p e s m args below meth c s₁ B hml hv
  obtain ⟨rfl, hsz, hP, hE, hD0⟩ := hv
  have hx := B.exec
  have hb := B.bytes
  have hr := B.returns
  have hts := atoms_spec (ws := wsX9_drop) B.pre
  have hown : s.vm.findClass RX9 = some m.cls := findClass_of_methodNamed B.named
  have hlocks := B.notSynchronized
  have hK := hE.1
  have hNN := hE.2.1
  have hinX9 : ∀ w ∈ wsX90, w ∈ wsX9_drop := fun w h => List.mem_cons_of_mem _ (List.mem_append_right _ h)
  subst hsz
  have hD := hD0.self (sz := s.heap.size)
  generalize hAe : va_A [(m0, .inr (9, [.int sh, .ref rO, .ref rU, .ref rT, .int rg, .ref rS, .ref rB, .ref rP, .ref rG, .long ab0, .long be0, .int mk, .ref rM, .int md, .ref rN, .ref rL, .ref rZ, .ref rE, .ref rI, .int hc, .ref rA, .ref rX, .int lnn, .ref rV, .ref rW, .int sl, .ref rC, .ref rF, .ref rQ, .ref rK, .ref rR, .ref rD])), (rL, .inl (E.2 1, 4, .inl La)), (rZ, .inl (E.2 1, 4, .inl (nA Sz)))] s.heap.size = A at hD ⊢
  have hA : ∀ q : Nat, s.heap.size ≤ q → A q := fun q h => by rw [← hAe]; exact Or.inr h
  have hS : va_S A s.heap s.heap [] := va_S.rf
  have hl := lv_entry ([.ref m0, .int (nI kk)]) (n := 2) (Nat.le_of_ble_eq_true rfl)
  rw [lg_entry_eq]
  generalize (lg_sl ([.ref m0, .int (nI kk)]) ++ List.replicate (2 - (lg_sl ([.ref m0, .int (nI kk)])).length) Slot.unset).toArray = ls at hl ⊢
  have hl : lv_has ls 2 [(0, .ref m0), (1, .int (nI kk))] := hl
  refine lv_iload_n hx hb dX9_drop_0 rfl (lv_at hl 1 rfl) ?_
  refine lv_i2l (v := lN kk) hx hb dX9_drop_1 (nI_l (by omega)) ?_
  refine lv_lconst (v := 0) hx hb dX9_drop_2 (by decide) ?_
  refine lv_ldc2 (v := 3) hx hb hown (hts (.constantLong RX9 108 (3)) (by decide +kernel)) dX9_drop_3 ?_
  refine rSi hE ⟨hx, hb, hml, hown, hts⟩ (c_X9_in l E (lN kk) 0 3 ) (va_cwS 3 hts gX9_drop_X9_in rfl rfl rfl (by decide +kernel) ⟨Nat.le_of_ble_eq_true rfl, Nat.le_of_ble_eq_true rfl⟩) (hP.sub [] rfl) rfl hl.1 rfl (Nat.le_of_ble_eq_true rfl) dX9_drop_6 ⟨(Nat.zero_le _), (Nat.zero_le _)⟩ ?_
  rw [show fIn (lN kk) 0 3 = fWi (nI kk) 0 3 from fIn_c (nI_l (by omega)) (by decide) (by decide)]
  refine lv_if_ne (tgt := 14) hx hb dX9_drop_9 (by decide) (fun c_9 => ?_) (fun c_9 => by exfalso; have c_9 := fWi_0 c_9; exact c_9 ⟨nI_pos' (by omega), nI_le (b := 3) (by omega) (by omega)⟩)
  have c_9 := fWi_1 c_9
  refine lv_aload_n hx hb dX9_drop_14 rfl (lv_at hl 0 rfl) ?_
  refine va_get (D := E.1) (ci := 9) (v := .ref rL) (C := RX9) (T := TX9) (N := 32) hx hb hts hinX9 hown hK hP 0 rfl rfl 15 (by decide) (hts (.fieldLink RX9 42 "WornRingsModel" "lanes" "[I") (by decide +kernel)) (fun _ h9 => h9) rfl dX9_drop_15 ?_
  refine lv_iload_n hx hb dX9_drop_18 rfl (lv_at hl 1 rfl) ?_
  refine va_iald hx hb hK hP 1 1 rfl rfl (vp_in_nI (by omega) (by omega)) dX9_drop_19 ?_
  rw [nI_clamp (n := kk) (by omega)]
  refine lv_if_ge (tgt := 26) hx hb dX9_drop_20 (by decide) (fun c_20 => ?_) (fun c_20 => ?_)
  · refine lv_aload_n hx hb dX9_drop_26 rfl (lv_at hl 0 rfl) ?_
    refine va_get (D := E.1) (ci := 9) (v := .ref rL) (C := RX9) (T := TX9) (N := 32) hx hb hts hinX9 hown hK hP 0 rfl rfl 15 (by decide) (hts (.fieldLink RX9 42 "WornRingsModel" "lanes" "[I") (by decide +kernel)) (fun _ h9 => h9) rfl dX9_drop_27 ?_
    refine lv_iload_n hx hb dX9_drop_30 rfl (lv_at hl 1 rfl) ?_
    refine lv_iconst (v := (-1)) hx hb dX9_drop_31 (by decide) ?_
    refine va_iast hx hb hK hP hD hS 1 1 rfl rfl (vp_in_nI (by omega) (by omega)) dX9_drop_32 (fun H locs hP hD hS => ?_)
    rw [nI_clamp (n := kk) (by omega)] at hP hD
    have hP : va_P E.1 vwCl [(m0, .inr (9, [.int sh, .ref rO, .ref rU, .ref rT, .int rg, .ref rS, .ref rB, .ref rP, .ref rG, .long ab0, .long be0, .int mk, .ref rM, .int md, .ref rN, .ref rL, .ref rZ, .ref rE, .ref rI, .int hc, .ref rA, .ref rX, .int lnn, .ref rV, .ref rW, .int sl, .ref rC, .ref rF, .ref rQ, .ref rK, .ref rR, .ref rD])), (rL, .inl (E.2 1, 4, .inl (upd La kk (-1 : Int32)))), (rZ, .inl (E.2 1, 4, .inl (nA Sz)))] H := hP
    have hD : va_D A [(m0, .inr (9, [.int sh, .ref rO, .ref rU, .ref rT, .int rg, .ref rS, .ref rB, .ref rP, .ref rG, .long ab0, .long be0, .int mk, .ref rM, .int md, .ref rN, .ref rL, .ref rZ, .ref rE, .ref rI, .int hc, .ref rA, .ref rX, .int lnn, .ref rV, .ref rW, .int sl, .ref rC, .ref rF, .ref rQ, .ref rK, .ref rR, .ref rD])), (rL, .inl (E.2 1, 4, .inl (upd La kk (-1 : Int32)))), (rZ, .inl (E.2 1, 4, .inl (nA Sz)))] := hD
    refine lv_aload_n hx hb dX9_drop_33 rfl (lv_at hl 0 rfl) ?_
    refine va_get (D := E.1) (ci := 9) (v := .ref rZ) (C := RX9) (T := TX9) (N := 32) hx hb hts hinX9 hown hK hP 0 rfl rfl 16 (by decide) (hts (.fieldLink RX9 45 "WornRingsModel" "sizes" "[I") (by decide +kernel)) (fun _ h9 => h9) rfl dX9_drop_34 ?_
    refine lv_iload_n hx hb dX9_drop_37 rfl (lv_at hl 1 rfl) ?_
    refine va_iald hx hb hK hP 2 1 rfl rfl (vp_in_nI (by omega) (by omega)) dX9_drop_38 ?_
    rw [nI_clamp (n := kk) (by omega)]
    refine W.eq (g2 := F0 m 39 ls [.int (nI (Sz kk))]) rfl ?_
    have e9 : ([(m0, .inr (9, [.int sh, .ref rO, .ref rU, .ref rT, .int rg, .ref rS, .ref rB, .ref rP, .ref rG, .long ab0, .long be0, .int mk, .ref rM, .int md, .ref rN, .ref rL, .ref rZ, .ref rE, .ref rI, .int hc, .ref rA, .ref rX, .int lnn, .ref rV, .ref rW, .int sl, .ref rC, .ref rF, .ref rQ, .ref rK, .ref rR, .ref rD])), (rL, .inl (E.2 1, 4, .inl (if La kk < 0 then La else upd La kk (-1)))), (rZ, .inl (E.2 1, 4, .inl (nA Sz)))] : va_W) = [(m0, .inr (9, [.int sh, .ref rO, .ref rU, .ref rT, .int rg, .ref rS, .ref rB, .ref rP, .ref rG, .long ab0, .long be0, .int mk, .ref rM, .int md, .ref rN, .ref rL, .ref rZ, .ref rE, .ref rI, .int hc, .ref rA, .ref rX, .int lnn, .ref rV, .ref rW, .int sl, .ref rC, .ref rF, .ref rQ, .ref rK, .ref rR, .ref rD])), (rL, .inl (E.2 1, 4, .inl (upd La kk (-1 : Int32)))), (rZ, .inl (E.2 1, 4, .inl (nA Sz)))] := by rw [if_neg (Int32.not_lt.mpr c_20)]
    have hP9 : va_P E.1 vwCl [(m0, .inr (9, [.int sh, .ref rO, .ref rU, .ref rT, .int rg, .ref rS, .ref rB, .ref rP, .ref rG, .long ab0, .long be0, .int mk, .ref rM, .int md, .ref rN, .ref rL, .ref rZ, .ref rE, .ref rI, .int hc, .ref rA, .ref rX, .int lnn, .ref rV, .ref rW, .int sl, .ref rC, .ref rF, .ref rQ, .ref rK, .ref rR, .ref rD])), (rL, .inl (E.2 1, 4, .inl (if La kk < 0 then La else upd La kk (-1)))), (rZ, .inl (E.2 1, 4, .inl (nA Sz)))] H := by rw [e9]; exact hP.sub [0, 1, 2] rfl
    have hD9 : va_D A [(m0, .inr (9, [.int sh, .ref rO, .ref rU, .ref rT, .int rg, .ref rS, .ref rB, .ref rP, .ref rG, .long ab0, .long be0, .int mk, .ref rM, .int md, .ref rN, .ref rL, .ref rZ, .ref rE, .ref rI, .int hc, .ref rA, .ref rX, .int lnn, .ref rV, .ref rW, .int sl, .ref rC, .ref rF, .ref rQ, .ref rK, .ref rR, .ref rD])), (rL, .inl (E.2 1, 4, .inl (if La kk < 0 then La else upd La kk (-1)))), (rZ, .inl (E.2 1, 4, .inl (nA Sz)))] := by rw [e9]; exact hD.sub [0, 1, 2] (by decide) rfl
    exact W.iret (v := nI (Sz kk)) hx hb hr (fun t9 ht9 hW9 => ⟨⟨nI (Sz kk), (), rfl, (if_neg (Int32.not_lt.mpr c_20)).symm, ⟨by rw [ht9]; exact hP9, hD9⟩⟩, hS.F ht9⟩) hS.2.2 dX9_drop_39
  · refine lv_bipush (v := (-11)) hx hb dX9_drop_23 (by decide) ?_
    have e9 : ([(m0, .inr (9, [.int sh, .ref rO, .ref rU, .ref rT, .int rg, .ref rS, .ref rB, .ref rP, .ref rG, .long ab0, .long be0, .int mk, .ref rM, .int md, .ref rN, .ref rL, .ref rZ, .ref rE, .ref rI, .int hc, .ref rA, .ref rX, .int lnn, .ref rV, .ref rW, .int sl, .ref rC, .ref rF, .ref rQ, .ref rK, .ref rR, .ref rD])), (rL, .inl (E.2 1, 4, .inl (if La kk < 0 then La else upd La kk (-1)))), (rZ, .inl (E.2 1, 4, .inl (nA Sz)))] : va_W) = [(m0, .inr (9, [.int sh, .ref rO, .ref rU, .ref rT, .int rg, .ref rS, .ref rB, .ref rP, .ref rG, .long ab0, .long be0, .int mk, .ref rM, .int md, .ref rN, .ref rL, .ref rZ, .ref rE, .ref rI, .int hc, .ref rA, .ref rX, .int lnn, .ref rV, .ref rW, .int sl, .ref rC, .ref rF, .ref rQ, .ref rK, .ref rR, .ref rD])), (rL, .inl (E.2 1, 4, .inl La)), (rZ, .inl (E.2 1, 4, .inl (nA Sz)))] := by rw [if_pos (Int32.not_le.mp c_20)]
    have hP9 : va_P E.1 vwCl [(m0, .inr (9, [.int sh, .ref rO, .ref rU, .ref rT, .int rg, .ref rS, .ref rB, .ref rP, .ref rG, .long ab0, .long be0, .int mk, .ref rM, .int md, .ref rN, .ref rL, .ref rZ, .ref rE, .ref rI, .int hc, .ref rA, .ref rX, .int lnn, .ref rV, .ref rW, .int sl, .ref rC, .ref rF, .ref rQ, .ref rK, .ref rR, .ref rD])), (rL, .inl (E.2 1, 4, .inl (if La kk < 0 then La else upd La kk (-1)))), (rZ, .inl (E.2 1, 4, .inl (nA Sz)))] s.heap := by rw [e9]; exact hP.sub [0, 1, 2] rfl
    have hD9 : va_D A [(m0, .inr (9, [.int sh, .ref rO, .ref rU, .ref rT, .int rg, .ref rS, .ref rB, .ref rP, .ref rG, .long ab0, .long be0, .int mk, .ref rM, .int md, .ref rN, .ref rL, .ref rZ, .ref rE, .ref rI, .int hc, .ref rA, .ref rX, .int lnn, .ref rV, .ref rW, .int sl, .ref rC, .ref rF, .ref rQ, .ref rK, .ref rR, .ref rD])), (rL, .inl (E.2 1, 4, .inl (if La kk < 0 then La else upd La kk (-1)))), (rZ, .inl (E.2 1, 4, .inl (nA Sz)))] := by rw [e9]; exact hD.sub [0, 1, 2] (by decide) rfl
    exact W.iret (v := (-11)) hx hb hr (fun t9 ht9 hW9 => ⟨⟨(-11), (), rfl, (if_pos (Int32.not_le.mp c_20)).symm, ⟨by rw [ht9]; exact hP9, hD9⟩⟩, hS.F ht9⟩) hS.2.2 dX9_drop_25
set_option maxHeartbeats 1000000 in
set_option maxRecDepth 100000 in
theorem c_X9_item_no (l : Launch) (E : EnvT) (sz : Nat) (m0 : Nat) (sh : Int32) (rO : Nat) (rU : Nat) (rT : Nat) (rg : Int32) (rS : Nat) (rB : Nat) (rP : Nat) (rG : Nat) (ab0 : Int64) (be0 : Int64) (mk : Int32) (rM : Nat) (md : Int32) (rN : Nat) (rL : Nat) (rZ : Nat) (rE : Nat) (rI : Nat) (hc : Int32) (rA : Nat) (rX : Nat) (lnn : Int32) (rV : Nat) (rW : Nat) (sl : Int32) (rC : Nat) (rF : Nat) (rQ : Nat) (rK : Nat) (rR : Nat) (rD : Nat) (sv : Int32) (l2 : Int32) (iv : Int32) (v : Int32) (hno : ¬ (((0 ≤ sv ∧ sv ≤ 3) ∧ (0 ≤ l2 ∧ l2 ≤ 2)) ∧ ((-30000) ≤ v ∧ v ≤ 30000))) : Met l yX9_item wsX9_item ({ frames := 2, cells := 0, slots := 0, locals := 46 }) (va_Pc [.ref m0, .int sv, .int l2, .int iv, .int v] (PW E [(m0, .inr (9, [.int sh, .ref rO, .ref rU, .ref rT, .int rg, .ref rS, .ref rB, .ref rP, .ref rG, .long ab0, .long be0, .int mk, .ref rM, .int md, .ref rN, .ref rL, .ref rZ, .ref rE, .ref rI, .int hc, .ref rA, .ref rX, .int lnn, .ref rV, .ref rW, .int sl, .ref rC, .ref rF, .ref rQ, .ref rK, .ref rR, .ref rD]))] sz)) (va_Qi (fun (r : Int32) (uu : Unit) => r = -1) (fun (uu : Unit) t => BW E (va_A [(m0, .inr (9, [.int sh, .ref rO, .ref rU, .ref rT, .int rg, .ref rS, .ref rB, .ref rP, .ref rG, .long ab0, .long be0, .int mk, .ref rM, .int md, .ref rN, .ref rL, .ref rZ, .ref rE, .ref rI, .int hc, .ref rA, .ref rX, .int lnn, .ref rV, .ref rW, .int sl, .ref rC, .ref rF, .ref rQ, .ref rK, .ref rR, .ref rD]))] sz) [(m0, .inr (9, [.int sh, .ref rO, .ref rU, .ref rT, .int rg, .ref rS, .ref rB, .ref rP, .ref rG, .long ab0, .long be0, .int mk, .ref rM, .int md, .ref rN, .ref rL, .ref rZ, .ref rE, .ref rI, .int hc, .ref rA, .ref rX, .int lnn, .ref rV, .ref rW, .int sl, .ref rC, .ref rF, .ref rQ, .ref rK, .ref rR, .ref rD]))] t) (va_A [(m0, .inr (9, [.int sh, .ref rO, .ref rU, .ref rT, .int rg, .ref rS, .ref rB, .ref rP, .ref rG, .long ab0, .long be0, .int mk, .ref rM, .int md, .ref rN, .ref rL, .ref rZ, .ref rE, .ref rI, .int hc, .ref rA, .ref rX, .int lnn, .ref rV, .ref rW, .int sl, .ref rC, .ref rF, .ref rQ, .ref rK, .ref rR, .ref rD]))] sz)) 0 0 (va_A [(m0, .inr (9, [.int sh, .ref rO, .ref rU, .ref rT, .int rg, .ref rS, .ref rB, .ref rP, .ref rG, .long ab0, .long be0, .int mk, .ref rM, .int md, .ref rN, .ref rL, .ref rZ, .ref rE, .ref rI, .int hc, .ref rA, .ref rX, .int lnn, .ref rV, .ref rW, .int sl, .ref rC, .ref rF, .ref rQ, .ref rK, .ref rR, .ref rD]))] sz) := by
  refine Met.ofW (cc := cX9_item) (maxL := 5) (ret := (some .int)) (by decide +kernel) rfl ?_
  intro p e s m args below meth c s₁ B hml hv
  obtain ⟨rfl, hsz, hP, hE, hD0⟩ := hv
  have hx := B.exec
  have hb := B.bytes
  have hr := B.returns
  have hts := atoms_spec (ws := wsX9_item) B.pre
  have hown : s.vm.findClass RX9 = some m.cls := findClass_of_methodNamed B.named
  have hlocks := B.notSynchronized
  have hK := hE.1
  have hNN := hE.2.1
  subst hsz
  have hD := hD0.self (sz := s.heap.size)
  generalize hAe : va_A [(m0, .inr (9, [.int sh, .ref rO, .ref rU, .ref rT, .int rg, .ref rS, .ref rB, .ref rP, .ref rG, .long ab0, .long be0, .int mk, .ref rM, .int md, .ref rN, .ref rL, .ref rZ, .ref rE, .ref rI, .int hc, .ref rA, .ref rX, .int lnn, .ref rV, .ref rW, .int sl, .ref rC, .ref rF, .ref rQ, .ref rK, .ref rR, .ref rD]))] s.heap.size = A at hD ⊢
  have hA : ∀ q : Nat, s.heap.size ≤ q → A q := fun q h => by rw [← hAe]; exact Or.inr h
  have hS : va_S A s.heap s.heap [] := va_S.rf
  have hl := lv_entry ([.ref m0, .int sv, .int l2, .int iv, .int v]) (n := 5) (Nat.le_of_ble_eq_true rfl)
  rw [lg_entry_eq]
  generalize (lg_sl ([.ref m0, .int sv, .int l2, .int iv, .int v]) ++ List.replicate (5 - (lg_sl ([.ref m0, .int sv, .int l2, .int iv, .int v])).length) Slot.unset).toArray = ls at hl ⊢
  have hl : lv_has ls 5 [(0, .ref m0), (1, .int sv), (2, .int l2), (3, .int iv), (4, .int v)] := hl
  refine lv_iload_n hx hb dX9_item_0 rfl (lv_at hl 1 rfl) ?_
  refine lv_iload_n hx hb dX9_item_1 rfl (lv_at hl 2 rfl) ?_
  refine rSi hE ⟨hx, hb, hml, hown, hts⟩ (c_X9_isSheet l E sv l2 ) (va_cwS 2 hts gX9_item_X9_isSheet rfl rfl rfl (by decide +kernel) ⟨Nat.le_of_ble_eq_true rfl, Nat.le_of_ble_eq_true rfl⟩) (hP.sub [] rfl) rfl hl.1 rfl (Nat.le_of_ble_eq_true rfl) dX9_item_2 ⟨(Nat.zero_le _), (Nat.zero_le _)⟩ ?_
  refine lv_if_eq (tgt := 23) hx hb dX9_item_5 (by decide) (fun c_5 => ?_) (fun c_5 => ?_)
  · have c_5 := fSh_0 c_5
    refine lv_iconst (v := (-1)) hx hb dX9_item_23 (by decide) ?_
    have hP9 : va_P E.1 vwCl [(m0, .inr (9, [.int sh, .ref rO, .ref rU, .ref rT, .int rg, .ref rS, .ref rB, .ref rP, .ref rG, .long ab0, .long be0, .int mk, .ref rM, .int md, .ref rN, .ref rL, .ref rZ, .ref rE, .ref rI, .int hc, .ref rA, .ref rX, .int lnn, .ref rV, .ref rW, .int sl, .ref rC, .ref rF, .ref rQ, .ref rK, .ref rR, .ref rD]))] s.heap := hP.sub [0] rfl
    have hD9 : va_D A [(m0, .inr (9, [.int sh, .ref rO, .ref rU, .ref rT, .int rg, .ref rS, .ref rB, .ref rP, .ref rG, .long ab0, .long be0, .int mk, .ref rM, .int md, .ref rN, .ref rL, .ref rZ, .ref rE, .ref rI, .int hc, .ref rA, .ref rX, .int lnn, .ref rV, .ref rW, .int sl, .ref rC, .ref rF, .ref rQ, .ref rK, .ref rR, .ref rD]))] := hD.sub [0] (by decide) rfl
    exact W.iret (v := (-1)) hx hb hr (fun t9 ht9 hW9 => ⟨⟨(-1), (), rfl, rfl, ⟨by rw [ht9]; exact hP9, hD9⟩⟩, hS.F ht9⟩) hS.2.2 dX9_item_24
  · have c_5 := fSh_1 c_5
    refine lv_iload hx hb dX9_item_8 (lv_at hl 4 rfl) ?_
    refine lv_i2l (v := v.toInt64) hx hb dX9_item_10 (rfl) ?_
    refine lv_ldc2 (v := (-30000)) hx hb hown (hts (.constantLong RX9 167 (-30000)) (by decide +kernel)) dX9_item_11 ?_
    refine lv_ldc2 (v := 30000) hx hb hown (hts (.constantLong RX9 169 (30000)) (by decide +kernel)) dX9_item_14 ?_
    refine rSi hE ⟨hx, hb, hml, hown, hts⟩ (c_X9_in l E v.toInt64 (-30000) 30000 ) (va_cwS 3 hts gX9_item_X9_in rfl rfl rfl (by decide +kernel) ⟨Nat.le_of_ble_eq_true rfl, Nat.le_of_ble_eq_true rfl⟩) (hP.sub [] rfl) rfl hl.1 rfl (Nat.le_of_ble_eq_true rfl) dX9_item_17 ⟨(Nat.zero_le _), (Nat.zero_le _)⟩ ?_
    rw [show fIn v.toInt64 (-30000) 30000 = fWi v (-30000) 30000 from fIn_c (rfl) (by decide) (by decide)]
    refine lv_if_ne (tgt := 25) hx hb dX9_item_20 (by decide) (fun c_20 => by exfalso; have c_20 := fWi_1 c_20; exact hno ⟨c_5, c_20⟩) (fun c_20 => ?_)
    have c_20 := fWi_0 c_20
    refine lv_iconst (v := (-1)) hx hb dX9_item_23 (by decide) ?_
    have hP9 : va_P E.1 vwCl [(m0, .inr (9, [.int sh, .ref rO, .ref rU, .ref rT, .int rg, .ref rS, .ref rB, .ref rP, .ref rG, .long ab0, .long be0, .int mk, .ref rM, .int md, .ref rN, .ref rL, .ref rZ, .ref rE, .ref rI, .int hc, .ref rA, .ref rX, .int lnn, .ref rV, .ref rW, .int sl, .ref rC, .ref rF, .ref rQ, .ref rK, .ref rR, .ref rD]))] s.heap := hP.sub [0] rfl
    have hD9 : va_D A [(m0, .inr (9, [.int sh, .ref rO, .ref rU, .ref rT, .int rg, .ref rS, .ref rB, .ref rP, .ref rG, .long ab0, .long be0, .int mk, .ref rM, .int md, .ref rN, .ref rL, .ref rZ, .ref rE, .ref rI, .int hc, .ref rA, .ref rX, .int lnn, .ref rV, .ref rW, .int sl, .ref rC, .ref rF, .ref rQ, .ref rK, .ref rR, .ref rD]))] := hD.sub [0] (by decide) rfl
    exact W.iret (v := (-1)) hx hb hr (fun t9 ht9 hW9 => ⟨⟨(-1), (), rfl, rfl, ⟨by rw [ht9]; exact hP9, hD9⟩⟩, hS.F ht9⟩) hS.2.2 dX9_item_24
set_option maxHeartbeats 1000000 in
set_option maxRecDepth 100000 in
theorem c_X9_item_mid (l : Launch) (E : EnvT) (sz : Nat) (m0 : Nat) (sh : Int32) (rO : Nat) (rU : Nat) (rT : Nat) (rg : Int32) (rS : Nat) (rB : Nat) (rP : Nat) (rG : Nat) (ab0 : Int64) (be0 : Int64) (mk : Int32) (rM : Nat) (md : Int32) (rN : Nat) (rL : Nat) (rZ : Nat) (rE : Nat) (rI : Nat) (hc : Int32) (rA : Nat) (rX : Nat) (lnn : Int32) (rV : Nat) (rW : Nat) (sl : Int32) (rC : Nat) (rF : Nat) (rQ : Nat) (rK : Nat) (rR : Nat) (rD : Nat) (La : Nat → Int32) (Sz : Nat → Nat) (kk : Nat) (l2 : Int32) (iv : Int32) (v : Int32) (hk : kk < 4) (hl2 : 0 ≤ l2 ∧ l2 ≤ 2) (hv : (-30000) ≤ v ∧ v ≤ 30000) (hno : ¬ La kk = l2 ∨ ¬ (0 ≤ iv ∧ iv ≤ nI (Sz kk) - 1)) : Met l yX9_item wsX9_item ({ frames := 2, cells := 0, slots := 0, locals := 46 }) (va_Pc [.ref m0, .int (nI kk), .int l2, .int iv, .int v] (PW E [(m0, .inr (9, [.int sh, .ref rO, .ref rU, .ref rT, .int rg, .ref rS, .ref rB, .ref rP, .ref rG, .long ab0, .long be0, .int mk, .ref rM, .int md, .ref rN, .ref rL, .ref rZ, .ref rE, .ref rI, .int hc, .ref rA, .ref rX, .int lnn, .ref rV, .ref rW, .int sl, .ref rC, .ref rF, .ref rQ, .ref rK, .ref rR, .ref rD])), (rL, .inl (E.2 1, 4, .inl La)), (rZ, .inl (E.2 1, 4, .inl (nA Sz)))] sz)) (va_Qi (fun (r : Int32) (uu : Unit) => r = if ¬ La kk = l2 then (if La kk < 0 then -11 else -12) else -13) (fun (uu : Unit) t => BW E (va_A [(m0, .inr (9, [.int sh, .ref rO, .ref rU, .ref rT, .int rg, .ref rS, .ref rB, .ref rP, .ref rG, .long ab0, .long be0, .int mk, .ref rM, .int md, .ref rN, .ref rL, .ref rZ, .ref rE, .ref rI, .int hc, .ref rA, .ref rX, .int lnn, .ref rV, .ref rW, .int sl, .ref rC, .ref rF, .ref rQ, .ref rK, .ref rR, .ref rD])), (rL, .inl (E.2 1, 4, .inl La)), (rZ, .inl (E.2 1, 4, .inl (nA Sz)))] sz) [(m0, .inr (9, [.int sh, .ref rO, .ref rU, .ref rT, .int rg, .ref rS, .ref rB, .ref rP, .ref rG, .long ab0, .long be0, .int mk, .ref rM, .int md, .ref rN, .ref rL, .ref rZ, .ref rE, .ref rI, .int hc, .ref rA, .ref rX, .int lnn, .ref rV, .ref rW, .int sl, .ref rC, .ref rF, .ref rQ, .ref rK, .ref rR, .ref rD])), (rL, .inl (E.2 1, 4, .inl La)), (rZ, .inl (E.2 1, 4, .inl (nA Sz)))] t) (va_A [(m0, .inr (9, [.int sh, .ref rO, .ref rU, .ref rT, .int rg, .ref rS, .ref rB, .ref rP, .ref rG, .long ab0, .long be0, .int mk, .ref rM, .int md, .ref rN, .ref rL, .ref rZ, .ref rE, .ref rI, .int hc, .ref rA, .ref rX, .int lnn, .ref rV, .ref rW, .int sl, .ref rC, .ref rF, .ref rQ, .ref rK, .ref rR, .ref rD])), (rL, .inl (E.2 1, 4, .inl La)), (rZ, .inl (E.2 1, 4, .inl (nA Sz)))] sz)) 0 0 (va_A [(m0, .inr (9, [.int sh, .ref rO, .ref rU, .ref rT, .int rg, .ref rS, .ref rB, .ref rP, .ref rG, .long ab0, .long be0, .int mk, .ref rM, .int md, .ref rN, .ref rL, .ref rZ, .ref rE, .ref rI, .int hc, .ref rA, .ref rX, .int lnn, .ref rV, .ref rW, .int sl, .ref rC, .ref rF, .ref rQ, .ref rK, .ref rR, .ref rD])), (rL, .inl (E.2 1, 4, .inl La)), (rZ, .inl (E.2 1, 4, .inl (nA Sz)))] sz) := by
  refine Met.ofW (cc := cX9_item) (maxL := 5) (ret := (some .int)) (by decide +kernel) rfl ?_
  intro p e s m args below meth c s₁ B hml hv
  obtain ⟨rfl, hsz, hP, hE, hD0⟩ := hv
  have hx := B.exec
  have hb := B.bytes
  have hr := B.returns
  have hts := atoms_spec (ws := wsX9_item) B.pre
  have hown : s.vm.findClass RX9 = some m.cls := findClass_of_methodNamed B.named
  have hlocks := B.notSynchronized
  have hK := hE.1
  have hNN := hE.2.1
  have hinX9 : ∀ w ∈ wsX90, w ∈ wsX9_item := fun w h => List.mem_cons_of_mem _ (List.mem_append_right _ h)
  subst hsz
  have hD := hD0.self (sz := s.heap.size)
  generalize hAe : va_A [(m0, .inr (9, [.int sh, .ref rO, .ref rU, .ref rT, .int rg, .ref rS, .ref rB, .ref rP, .ref rG, .long ab0, .long be0, .int mk, .ref rM, .int md, .ref rN, .ref rL, .ref rZ, .ref rE, .ref rI, .int hc, .ref rA, .ref rX, .int lnn, .ref rV, .ref rW, .int sl, .ref rC, .ref rF, .ref rQ, .ref rK, .ref rR, .ref rD])), (rL, .inl (E.2 1, 4, .inl La)), (rZ, .inl (E.2 1, 4, .inl (nA Sz)))] s.heap.size = A at hD ⊢
  have hA : ∀ q : Nat, s.heap.size ≤ q → A q := fun q h => by rw [← hAe]; exact Or.inr h
  have hS : va_S A s.heap s.heap [] := va_S.rf
  have hl := lv_entry ([.ref m0, .int (nI kk), .int l2, .int iv, .int v]) (n := 5) (Nat.le_of_ble_eq_true rfl)
  rw [lg_entry_eq]
  generalize (lg_sl ([.ref m0, .int (nI kk), .int l2, .int iv, .int v]) ++ List.replicate (5 - (lg_sl ([.ref m0, .int (nI kk), .int l2, .int iv, .int v])).length) Slot.unset).toArray = ls at hl ⊢
  have hl : lv_has ls 5 [(0, .ref m0), (1, .int (nI kk)), (2, .int l2), (3, .int iv), (4, .int v)] := hl
  refine lv_iload_n hx hb dX9_item_0 rfl (lv_at hl 1 rfl) ?_
  refine lv_iload_n hx hb dX9_item_1 rfl (lv_at hl 2 rfl) ?_
  refine rSi hE ⟨hx, hb, hml, hown, hts⟩ (c_X9_isSheet l E (nI kk) l2 ) (va_cwS 2 hts gX9_item_X9_isSheet rfl rfl rfl (by decide +kernel) ⟨Nat.le_of_ble_eq_true rfl, Nat.le_of_ble_eq_true rfl⟩) (hP.sub [] rfl) rfl hl.1 rfl (Nat.le_of_ble_eq_true rfl) dX9_item_2 ⟨(Nat.zero_le _), (Nat.zero_le _)⟩ ?_
  refine lv_if_eq (tgt := 23) hx hb dX9_item_5 (by decide) (fun c_5 => by exfalso; have c_5 := fSh_0 c_5; exact c_5 ⟨⟨nI_pos' (by omega), nI_le (b := 3) (by omega) (by omega)⟩, hl2⟩) (fun c_5 => ?_)
  have c_5 := fSh_1 c_5
  refine lv_iload hx hb dX9_item_8 (lv_at hl 4 rfl) ?_
  refine lv_i2l (v := v.toInt64) hx hb dX9_item_10 (rfl) ?_
  refine lv_ldc2 (v := (-30000)) hx hb hown (hts (.constantLong RX9 167 (-30000)) (by decide +kernel)) dX9_item_11 ?_
  refine lv_ldc2 (v := 30000) hx hb hown (hts (.constantLong RX9 169 (30000)) (by decide +kernel)) dX9_item_14 ?_
  refine rSi hE ⟨hx, hb, hml, hown, hts⟩ (c_X9_in l E v.toInt64 (-30000) 30000 ) (va_cwS 3 hts gX9_item_X9_in rfl rfl rfl (by decide +kernel) ⟨Nat.le_of_ble_eq_true rfl, Nat.le_of_ble_eq_true rfl⟩) (hP.sub [] rfl) rfl hl.1 rfl (Nat.le_of_ble_eq_true rfl) dX9_item_17 ⟨(Nat.zero_le _), (Nat.zero_le _)⟩ ?_
  rw [show fIn v.toInt64 (-30000) 30000 = fWi v (-30000) 30000 from fIn_c (rfl) (by decide) (by decide)]
  refine lv_if_ne (tgt := 25) hx hb dX9_item_20 (by decide) (fun c_20 => ?_) (fun c_20 => by exfalso; have c_20 := fWi_0 c_20; exact c_20 hv)
  have c_20 := fWi_1 c_20
  refine lv_aload_n hx hb dX9_item_25 rfl (lv_at hl 0 rfl) ?_
  refine va_get (D := E.1) (ci := 9) (v := .ref rL) (C := RX9) (T := TX9) (N := 32) hx hb hts hinX9 hown hK hP 0 rfl rfl 15 (by decide) (hts (.fieldLink RX9 42 "WornRingsModel" "lanes" "[I") (by decide +kernel)) (fun _ h9 => h9) rfl dX9_item_26 ?_
  refine lv_iload_n hx hb dX9_item_29 rfl (lv_at hl 1 rfl) ?_
  refine va_iald hx hb hK hP 1 1 rfl rfl (vp_in_nI (by omega) (by omega)) dX9_item_30 ?_
  rw [nI_clamp (n := kk) (by omega)]
  refine lv_iload_n hx hb dX9_item_31 rfl (lv_at hl 2 rfl) ?_
  refine lv_icmp_eq (tgt := 52) hx hb dX9_item_32 (by decide) (fun c_32 => ?_) (fun c_32 => ?_)
  · refine lv_iload_n hx hb dX9_item_52 rfl (lv_at hl 3 rfl) ?_
    refine lv_i2l (v := iv.toInt64) hx hb dX9_item_53 (rfl) ?_
    refine lv_lconst (v := 0) hx hb dX9_item_54 (by decide) ?_
    refine lv_aload_n hx hb dX9_item_55 rfl (lv_at hl 0 rfl) ?_
    refine va_get (D := E.1) (ci := 9) (v := .ref rZ) (C := RX9) (T := TX9) (N := 32) hx hb hts hinX9 hown hK hP 0 rfl rfl 16 (by decide) (hts (.fieldLink RX9 45 "WornRingsModel" "sizes" "[I") (by decide +kernel)) (fun _ h9 => h9) rfl dX9_item_56 ?_
    refine lv_iload_n hx hb dX9_item_59 rfl (lv_at hl 1 rfl) ?_
    refine va_iald hx hb hK hP 2 1 rfl rfl (vp_in_nI (by omega) (by omega)) dX9_item_60 ?_
    rw [nI_clamp (n := kk) (by omega)]
    refine W.eq (g2 := F0 m 61 ls [.int (nI (Sz kk)), .long 0, .long iv.toInt64]) rfl ?_
    refine lv_iconst (v := 1) hx hb dX9_item_61 (by decide) ?_
    refine lv_isub hx hb dX9_item_62 ?_
    refine lv_i2l (v := ((nI (Sz kk)) - 1).toInt64) hx hb dX9_item_63 (rfl) ?_
    refine rSi hE ⟨hx, hb, hml, hown, hts⟩ (c_X9_in l E iv.toInt64 0 (((nI (Sz kk)) - 1).toInt64) ) (va_cwS 3 hts gX9_item_X9_in rfl rfl rfl (by decide +kernel) ⟨Nat.le_of_ble_eq_true rfl, Nat.le_of_ble_eq_true rfl⟩) (hP.sub [] rfl) rfl hl.1 rfl (Nat.le_of_ble_eq_true rfl) dX9_item_64 ⟨(Nat.zero_le _), (Nat.zero_le _)⟩ ?_
    rw [show fIn iv.toInt64 0 (((nI (Sz kk)) - 1).toInt64) = fWi iv 0 ((nI (Sz kk)) - 1) from fIn_c (rfl) (by decide) (rfl)]
    refine lv_if_ne (tgt := 73) hx hb dX9_item_67 (by decide) (fun c_67 => by exfalso; have c_67 := fWi_1 c_67; exact hno.elim (fun h9 => h9 c_32) (fun h9 => h9 c_67)) (fun c_67 => ?_)
    have c_67 := fWi_0 c_67
    refine lv_bipush (v := (-13)) hx hb dX9_item_70 (by decide) ?_
    have hP9 : va_P E.1 vwCl [(m0, .inr (9, [.int sh, .ref rO, .ref rU, .ref rT, .int rg, .ref rS, .ref rB, .ref rP, .ref rG, .long ab0, .long be0, .int mk, .ref rM, .int md, .ref rN, .ref rL, .ref rZ, .ref rE, .ref rI, .int hc, .ref rA, .ref rX, .int lnn, .ref rV, .ref rW, .int sl, .ref rC, .ref rF, .ref rQ, .ref rK, .ref rR, .ref rD])), (rL, .inl (E.2 1, 4, .inl La)), (rZ, .inl (E.2 1, 4, .inl (nA Sz)))] s.heap := hP.sub [0, 1, 2] rfl
    have hD9 : va_D A [(m0, .inr (9, [.int sh, .ref rO, .ref rU, .ref rT, .int rg, .ref rS, .ref rB, .ref rP, .ref rG, .long ab0, .long be0, .int mk, .ref rM, .int md, .ref rN, .ref rL, .ref rZ, .ref rE, .ref rI, .int hc, .ref rA, .ref rX, .int lnn, .ref rV, .ref rW, .int sl, .ref rC, .ref rF, .ref rQ, .ref rK, .ref rR, .ref rD])), (rL, .inl (E.2 1, 4, .inl La)), (rZ, .inl (E.2 1, 4, .inl (nA Sz)))] := hD.sub [0, 1, 2] (by decide) rfl
    exact W.iret (v := (-13)) hx hb hr (fun t9 ht9 hW9 => ⟨⟨(-13), (), rfl, by rw [if_neg (fun h9 => h9 c_32)], ⟨by rw [ht9]; exact hP9, hD9⟩⟩, hS.F ht9⟩) hS.2.2 dX9_item_72
  · refine lv_aload_n hx hb dX9_item_35 rfl (lv_at hl 0 rfl) ?_
    refine va_get (D := E.1) (ci := 9) (v := .ref rL) (C := RX9) (T := TX9) (N := 32) hx hb hts hinX9 hown hK hP 0 rfl rfl 15 (by decide) (hts (.fieldLink RX9 42 "WornRingsModel" "lanes" "[I") (by decide +kernel)) (fun _ h9 => h9) rfl dX9_item_36 ?_
    refine lv_iload_n hx hb dX9_item_39 rfl (lv_at hl 1 rfl) ?_
    refine va_iald hx hb hK hP 1 1 rfl rfl (vp_in_nI (by omega) (by omega)) dX9_item_40 ?_
    rw [nI_clamp (n := kk) (by omega)]
    refine lv_if_ge (tgt := 49) hx hb dX9_item_41 (by decide) (fun c_41 => ?_) (fun c_41 => ?_)
    · refine lv_bipush (v := (-12)) hx hb dX9_item_49 (by decide) ?_
      have hP9 : va_P E.1 vwCl [(m0, .inr (9, [.int sh, .ref rO, .ref rU, .ref rT, .int rg, .ref rS, .ref rB, .ref rP, .ref rG, .long ab0, .long be0, .int mk, .ref rM, .int md, .ref rN, .ref rL, .ref rZ, .ref rE, .ref rI, .int hc, .ref rA, .ref rX, .int lnn, .ref rV, .ref rW, .int sl, .ref rC, .ref rF, .ref rQ, .ref rK, .ref rR, .ref rD])), (rL, .inl (E.2 1, 4, .inl La)), (rZ, .inl (E.2 1, 4, .inl (nA Sz)))] s.heap := hP.sub [0, 1, 2] rfl
      have hD9 : va_D A [(m0, .inr (9, [.int sh, .ref rO, .ref rU, .ref rT, .int rg, .ref rS, .ref rB, .ref rP, .ref rG, .long ab0, .long be0, .int mk, .ref rM, .int md, .ref rN, .ref rL, .ref rZ, .ref rE, .ref rI, .int hc, .ref rA, .ref rX, .int lnn, .ref rV, .ref rW, .int sl, .ref rC, .ref rF, .ref rQ, .ref rK, .ref rR, .ref rD])), (rL, .inl (E.2 1, 4, .inl La)), (rZ, .inl (E.2 1, 4, .inl (nA Sz)))] := hD.sub [0, 1, 2] (by decide) rfl
      exact W.iret (v := (-12)) hx hb hr (fun t9 ht9 hW9 => ⟨⟨(-12), (), rfl, by first | (rw [if_pos c_32, if_pos (Int32.not_le.mp c_41)]; done) | (rw [if_pos c_32, if_neg (Int32.not_lt.mpr c_41)]; done), ⟨by rw [ht9]; exact hP9, hD9⟩⟩, hS.F ht9⟩) hS.2.2 dX9_item_51
    · refine lv_bipush (v := (-11)) hx hb dX9_item_44 (by decide) ?_
      refine lv_goto (tgt := 51) hx hb dX9_item_46 (by decide) ?_
      have hP9 : va_P E.1 vwCl [(m0, .inr (9, [.int sh, .ref rO, .ref rU, .ref rT, .int rg, .ref rS, .ref rB, .ref rP, .ref rG, .long ab0, .long be0, .int mk, .ref rM, .int md, .ref rN, .ref rL, .ref rZ, .ref rE, .ref rI, .int hc, .ref rA, .ref rX, .int lnn, .ref rV, .ref rW, .int sl, .ref rC, .ref rF, .ref rQ, .ref rK, .ref rR, .ref rD])), (rL, .inl (E.2 1, 4, .inl La)), (rZ, .inl (E.2 1, 4, .inl (nA Sz)))] s.heap := hP.sub [0, 1, 2] rfl
      have hD9 : va_D A [(m0, .inr (9, [.int sh, .ref rO, .ref rU, .ref rT, .int rg, .ref rS, .ref rB, .ref rP, .ref rG, .long ab0, .long be0, .int mk, .ref rM, .int md, .ref rN, .ref rL, .ref rZ, .ref rE, .ref rI, .int hc, .ref rA, .ref rX, .int lnn, .ref rV, .ref rW, .int sl, .ref rC, .ref rF, .ref rQ, .ref rK, .ref rR, .ref rD])), (rL, .inl (E.2 1, 4, .inl La)), (rZ, .inl (E.2 1, 4, .inl (nA Sz)))] := hD.sub [0, 1, 2] (by decide) rfl
      exact W.iret (v := (-11)) hx hb hr (fun t9 ht9 hW9 => ⟨⟨(-11), (), rfl, by first | (rw [if_pos c_32, if_pos (Int32.not_le.mp c_41)]; done) | (rw [if_pos c_32, if_neg (Int32.not_lt.mpr c_41)]; done), ⟨by rw [ht9]; exact hP9, hD9⟩⟩, hS.F ht9⟩) hS.2.2 dX9_item_51
set_option maxHeartbeats 1000000 in
set_option maxRecDepth 100000 in
theorem c_X9_item_yes (l : Launch) (E : EnvT) (sz : Nat) (m0 : Nat) (sh : Int32) (rO : Nat) (rU : Nat) (rT : Nat) (rg : Int32) (rS : Nat) (rB : Nat) (rP : Nat) (rG : Nat) (ab0 : Int64) (be0 : Int64) (mk : Int32) (rM : Nat) (md : Int32) (rN : Nat) (rL : Nat) (rZ : Nat) (rE : Nat) (rI : Nat) (hc : Int32) (rA : Nat) (rX : Nat) (lnn : Int32) (rV : Nat) (rW : Nat) (sl : Int32) (rC : Nat) (rF : Nat) (rQ : Nat) (rK : Nat) (rR : Nat) (rD : Nat) (La : Nat → Int32) (Sz : Nat → Nat) (Sp : Nat → Nat) (It : Nat → Int32) (kk : Nat) (l2 : Int32) (j : Nat) (v : Int32) (hk : kk < 4) (hl2 : 0 ≤ l2 ∧ l2 ≤ 2) (hv : (-30000) ≤ v ∧ v ≤ 30000) (hln : La kk = l2) (hj : j < Sz kk) (hn : Sz kk ≤ 200) : Met l yX9_item wsX9_item ({ frames := 2, cells := 0, slots := 0, locals := 46 }) (va_Pc [.ref m0, .int (nI kk), .int l2, .int (nI j), .int v] (PW E [(m0, .inr (9, [.int sh, .ref rO, .ref rU, .ref rT, .int rg, .ref rS, .ref rB, .ref rP, .ref rG, .long ab0, .long be0, .int mk, .ref rM, .int md, .ref rN, .ref rL, .ref rZ, .ref rE, .ref rI, .int hc, .ref rA, .ref rX, .int lnn, .ref rV, .ref rW, .int sl, .ref rC, .ref rF, .ref rQ, .ref rK, .ref rR, .ref rD])), (rL, .inl (E.2 1, 4, .inl La)), (rZ, .inl (E.2 1, 4, .inl (nA Sz))), (rE, .inl (E.2 1, 4, .inl (nA Sp))), (rI, .inl (E.2 1, 800, .inl It))] sz)) (va_Qi (fun (r : Int32) (uu : Unit) => r = 1) (fun (uu : Unit) t => BW E (va_A [(m0, .inr (9, [.int sh, .ref rO, .ref rU, .ref rT, .int rg, .ref rS, .ref rB, .ref rP, .ref rG, .long ab0, .long be0, .int mk, .ref rM, .int md, .ref rN, .ref rL, .ref rZ, .ref rE, .ref rI, .int hc, .ref rA, .ref rX, .int lnn, .ref rV, .ref rW, .int sl, .ref rC, .ref rF, .ref rQ, .ref rK, .ref rR, .ref rD])), (rL, .inl (E.2 1, 4, .inl La)), (rZ, .inl (E.2 1, 4, .inl (nA Sz))), (rE, .inl (E.2 1, 4, .inl (nA Sp))), (rI, .inl (E.2 1, 800, .inl It))] sz) [(m0, .inr (9, [.int sh, .ref rO, .ref rU, .ref rT, .int rg, .ref rS, .ref rB, .ref rP, .ref rG, .long ab0, .long be0, .int mk, .ref rM, .int md, .ref rN, .ref rL, .ref rZ, .ref rE, .ref rI, .int hc, .ref rA, .ref rX, .int lnn, .ref rV, .ref rW, .int sl, .ref rC, .ref rF, .ref rQ, .ref rK, .ref rR, .ref rD])), (rL, .inl (E.2 1, 4, .inl La)), (rZ, .inl (E.2 1, 4, .inl (nA Sz))), (rE, .inl (E.2 1, 4, .inl (nA Sp))), (rI, .inl (E.2 1, 800, .inl (upd It (200 * kk + j) (fPM l2 v))))] t) (va_A [(m0, .inr (9, [.int sh, .ref rO, .ref rU, .ref rT, .int rg, .ref rS, .ref rB, .ref rP, .ref rG, .long ab0, .long be0, .int mk, .ref rM, .int md, .ref rN, .ref rL, .ref rZ, .ref rE, .ref rI, .int hc, .ref rA, .ref rX, .int lnn, .ref rV, .ref rW, .int sl, .ref rC, .ref rF, .ref rQ, .ref rK, .ref rR, .ref rD])), (rL, .inl (E.2 1, 4, .inl La)), (rZ, .inl (E.2 1, 4, .inl (nA Sz))), (rE, .inl (E.2 1, 4, .inl (nA Sp))), (rI, .inl (E.2 1, 800, .inl It))] sz)) 0 0 (va_A [(m0, .inr (9, [.int sh, .ref rO, .ref rU, .ref rT, .int rg, .ref rS, .ref rB, .ref rP, .ref rG, .long ab0, .long be0, .int mk, .ref rM, .int md, .ref rN, .ref rL, .ref rZ, .ref rE, .ref rI, .int hc, .ref rA, .ref rX, .int lnn, .ref rV, .ref rW, .int sl, .ref rC, .ref rF, .ref rQ, .ref rK, .ref rR, .ref rD])), (rL, .inl (E.2 1, 4, .inl La)), (rZ, .inl (E.2 1, 4, .inl (nA Sz))), (rE, .inl (E.2 1, 4, .inl (nA Sp))), (rI, .inl (E.2 1, 800, .inl It))] sz) := by
  refine Met.ofW (cc := cX9_item) (maxL := 5) (ret := (some .int)) (by decide +kernel) rfl ?_
  intro p e s m args below meth c s₁ B hml hv
  obtain ⟨rfl, hsz, hP, hE, hD0⟩ := hv
  have hx := B.exec
  have hb := B.bytes
  have hr := B.returns
  have hts := atoms_spec (ws := wsX9_item) B.pre
  have hown : s.vm.findClass RX9 = some m.cls := findClass_of_methodNamed B.named
  have hlocks := B.notSynchronized
  have hK := hE.1
  have hNN := hE.2.1
  have hinX9 : ∀ w ∈ wsX90, w ∈ wsX9_item := fun w h => List.mem_cons_of_mem _ (List.mem_append_right _ h)
  subst hsz
  have hD := hD0.self (sz := s.heap.size)
  generalize hAe : va_A [(m0, .inr (9, [.int sh, .ref rO, .ref rU, .ref rT, .int rg, .ref rS, .ref rB, .ref rP, .ref rG, .long ab0, .long be0, .int mk, .ref rM, .int md, .ref rN, .ref rL, .ref rZ, .ref rE, .ref rI, .int hc, .ref rA, .ref rX, .int lnn, .ref rV, .ref rW, .int sl, .ref rC, .ref rF, .ref rQ, .ref rK, .ref rR, .ref rD])), (rL, .inl (E.2 1, 4, .inl La)), (rZ, .inl (E.2 1, 4, .inl (nA Sz))), (rE, .inl (E.2 1, 4, .inl (nA Sp))), (rI, .inl (E.2 1, 800, .inl It))] s.heap.size = A at hD ⊢
  have hA : ∀ q : Nat, s.heap.size ≤ q → A q := fun q h => by rw [← hAe]; exact Or.inr h
  have hS : va_S A s.heap s.heap [] := va_S.rf
  have hl := lv_entry ([.ref m0, .int (nI kk), .int l2, .int (nI j), .int v]) (n := 5) (Nat.le_of_ble_eq_true rfl)
  rw [lg_entry_eq]
  generalize (lg_sl ([.ref m0, .int (nI kk), .int l2, .int (nI j), .int v]) ++ List.replicate (5 - (lg_sl ([.ref m0, .int (nI kk), .int l2, .int (nI j), .int v])).length) Slot.unset).toArray = ls at hl ⊢
  have hl : lv_has ls 5 [(0, .ref m0), (1, .int (nI kk)), (2, .int l2), (3, .int (nI j)), (4, .int v)] := hl
  refine lv_iload_n hx hb dX9_item_0 rfl (lv_at hl 1 rfl) ?_
  refine lv_iload_n hx hb dX9_item_1 rfl (lv_at hl 2 rfl) ?_
  refine rSi hE ⟨hx, hb, hml, hown, hts⟩ (c_X9_isSheet l E (nI kk) l2 ) (va_cwS 2 hts gX9_item_X9_isSheet rfl rfl rfl (by decide +kernel) ⟨Nat.le_of_ble_eq_true rfl, Nat.le_of_ble_eq_true rfl⟩) (hP.sub [] rfl) rfl hl.1 rfl (Nat.le_of_ble_eq_true rfl) dX9_item_2 ⟨(Nat.zero_le _), (Nat.zero_le _)⟩ ?_
  refine lv_if_eq (tgt := 23) hx hb dX9_item_5 (by decide) (fun c_5 => by exfalso; have c_5 := fSh_0 c_5; exact c_5 ⟨⟨nI_pos' (by omega), nI_le (b := 3) (by omega) (by omega)⟩, hl2⟩) (fun c_5 => ?_)
  have c_5 := fSh_1 c_5
  refine lv_iload hx hb dX9_item_8 (lv_at hl 4 rfl) ?_
  refine lv_i2l (v := v.toInt64) hx hb dX9_item_10 (rfl) ?_
  refine lv_ldc2 (v := (-30000)) hx hb hown (hts (.constantLong RX9 167 (-30000)) (by decide +kernel)) dX9_item_11 ?_
  refine lv_ldc2 (v := 30000) hx hb hown (hts (.constantLong RX9 169 (30000)) (by decide +kernel)) dX9_item_14 ?_
  refine rSi hE ⟨hx, hb, hml, hown, hts⟩ (c_X9_in l E v.toInt64 (-30000) 30000 ) (va_cwS 3 hts gX9_item_X9_in rfl rfl rfl (by decide +kernel) ⟨Nat.le_of_ble_eq_true rfl, Nat.le_of_ble_eq_true rfl⟩) (hP.sub [] rfl) rfl hl.1 rfl (Nat.le_of_ble_eq_true rfl) dX9_item_17 ⟨(Nat.zero_le _), (Nat.zero_le _)⟩ ?_
  rw [show fIn v.toInt64 (-30000) 30000 = fWi v (-30000) 30000 from fIn_c (rfl) (by decide) (by decide)]
  refine lv_if_ne (tgt := 25) hx hb dX9_item_20 (by decide) (fun c_20 => ?_) (fun c_20 => by exfalso; have c_20 := fWi_0 c_20; exact c_20 hv)
  have c_20 := fWi_1 c_20
  refine lv_aload_n hx hb dX9_item_25 rfl (lv_at hl 0 rfl) ?_
  refine va_get (D := E.1) (ci := 9) (v := .ref rL) (C := RX9) (T := TX9) (N := 32) hx hb hts hinX9 hown hK hP 0 rfl rfl 15 (by decide) (hts (.fieldLink RX9 42 "WornRingsModel" "lanes" "[I") (by decide +kernel)) (fun _ h9 => h9) rfl dX9_item_26 ?_
  refine lv_iload_n hx hb dX9_item_29 rfl (lv_at hl 1 rfl) ?_
  refine va_iald hx hb hK hP 1 1 rfl rfl (vp_in_nI (by omega) (by omega)) dX9_item_30 ?_
  rw [nI_clamp (n := kk) (by omega)]
  refine lv_iload_n hx hb dX9_item_31 rfl (lv_at hl 2 rfl) ?_
  refine lv_icmp_eq (tgt := 52) hx hb dX9_item_32 (by decide) (fun c_32 => ?_) (fun c_32 => by exfalso; exact c_32 hln)
  refine lv_iload_n hx hb dX9_item_52 rfl (lv_at hl 3 rfl) ?_
  refine lv_i2l (v := lN j) hx hb dX9_item_53 (nI_l (by omega)) ?_
  refine lv_lconst (v := 0) hx hb dX9_item_54 (by decide) ?_
  refine lv_aload_n hx hb dX9_item_55 rfl (lv_at hl 0 rfl) ?_
  refine va_get (D := E.1) (ci := 9) (v := .ref rZ) (C := RX9) (T := TX9) (N := 32) hx hb hts hinX9 hown hK hP 0 rfl rfl 16 (by decide) (hts (.fieldLink RX9 45 "WornRingsModel" "sizes" "[I") (by decide +kernel)) (fun _ h9 => h9) rfl dX9_item_56 ?_
  refine lv_iload_n hx hb dX9_item_59 rfl (lv_at hl 1 rfl) ?_
  refine va_iald hx hb hK hP 2 1 rfl rfl (vp_in_nI (by omega) (by omega)) dX9_item_60 ?_
  rw [nI_clamp (n := kk) (by omega)]
  refine W.eq (g2 := F0 m 61 ls [.int (nI (Sz kk)), .long 0, .long (lN j)]) rfl ?_
  refine lv_iconst (v := 1) hx hb dX9_item_61 (by decide) ?_
  refine lv_isub hx hb dX9_item_62 ?_
  refine lv_i2l (v := ((nI (Sz kk)) - 1).toInt64) hx hb dX9_item_63 (rfl) ?_
  refine rSi hE ⟨hx, hb, hml, hown, hts⟩ (c_X9_in l E (lN j) 0 (((nI (Sz kk)) - 1).toInt64) ) (va_cwS 3 hts gX9_item_X9_in rfl rfl rfl (by decide +kernel) ⟨Nat.le_of_ble_eq_true rfl, Nat.le_of_ble_eq_true rfl⟩) (hP.sub [] rfl) rfl hl.1 rfl (Nat.le_of_ble_eq_true rfl) dX9_item_64 ⟨(Nat.zero_le _), (Nat.zero_le _)⟩ ?_
  rw [show fIn (lN j) 0 (((nI (Sz kk)) - 1).toInt64) = fWi (nI j) 0 ((nI (Sz kk)) - 1) from fIn_c (nI_l (by omega)) (by decide) (rfl)]
  refine lv_if_ne (tgt := 73) hx hb dX9_item_67 (by decide) (fun c_67 => ?_) (fun c_67 => by exfalso; have c_67 := fWi_0 c_67; exact c_67 (ix_to hj (by omega)))
  have c_67 := fWi_1 c_67
  refine lv_aload_n hx hb dX9_item_73 rfl (lv_at hl 0 rfl) ?_
  refine va_get (D := E.1) (ci := 9) (v := .ref rI) (C := RX9) (T := TX9) (N := 32) hx hb hts hinX9 hown hK hP 0 rfl rfl 18 (by decide) (hts (.fieldLink RX9 51 "WornRingsModel" "items" "[I") (by decide +kernel)) (fun _ h9 => h9) rfl dX9_item_74 ?_
  refine lv_sipush (v := 200) hx hb dX9_item_77 (by decide) ?_
  refine lv_iload_n hx hb dX9_item_80 rfl (lv_at hl 1 rfl) ?_
  refine lv_imul hx hb dX9_item_81 ?_
  rw [show ((200 : Int32) * (nI kk) : Int32) = nI (200 * kk) from pk_mul 200 kk]
  refine lv_iload_n hx hb dX9_item_82 rfl (lv_at hl 3 rfl) ?_
  refine lv_iadd hx hb dX9_item_83 ?_
  rw [show ((nI (200 * kk)) + (nI j) : Int32) = nI ((200 * kk) + j) from nI_add (200 * kk) j]
  refine lv_iload_n hx hb dX9_item_84 rfl (lv_at hl 2 rfl) ?_
  refine lv_if_ne (tgt := 99) hx hb dX9_item_85 (by decide) (fun c_85 => ?_) (fun c_85 => ?_)
  · refine lv_iload hx hb dX9_item_99 (lv_at hl 4 rfl) ?_
    refine va_iast hx hb hK hP hD hS 4 1 rfl rfl (vp_in_nI (by omega) (by omega)) dX9_item_101 (fun H locs hP hD hS => ?_)
    rw [nI_clamp (n := (200 * kk) + j) (by omega)] at hP hD
    have hP : va_P E.1 vwCl [(m0, .inr (9, [.int sh, .ref rO, .ref rU, .ref rT, .int rg, .ref rS, .ref rB, .ref rP, .ref rG, .long ab0, .long be0, .int mk, .ref rM, .int md, .ref rN, .ref rL, .ref rZ, .ref rE, .ref rI, .int hc, .ref rA, .ref rX, .int lnn, .ref rV, .ref rW, .int sl, .ref rC, .ref rF, .ref rQ, .ref rK, .ref rR, .ref rD])), (rL, .inl (E.2 1, 4, .inl La)), (rZ, .inl (E.2 1, 4, .inl (nA Sz))), (rE, .inl (E.2 1, 4, .inl (nA Sp))), (rI, .inl (E.2 1, 800, .inl (upd It ((200 * kk) + j) v)))] H := hP
    have hD : va_D A [(m0, .inr (9, [.int sh, .ref rO, .ref rU, .ref rT, .int rg, .ref rS, .ref rB, .ref rP, .ref rG, .long ab0, .long be0, .int mk, .ref rM, .int md, .ref rN, .ref rL, .ref rZ, .ref rE, .ref rI, .int hc, .ref rA, .ref rX, .int lnn, .ref rV, .ref rW, .int sl, .ref rC, .ref rF, .ref rQ, .ref rK, .ref rR, .ref rD])), (rL, .inl (E.2 1, 4, .inl La)), (rZ, .inl (E.2 1, 4, .inl (nA Sz))), (rE, .inl (E.2 1, 4, .inl (nA Sp))), (rI, .inl (E.2 1, 800, .inl (upd It ((200 * kk) + j) v)))] := hD
    refine lv_iconst (v := 1) hx hb dX9_item_102 (by decide) ?_
    have e9 : ([(m0, .inr (9, [.int sh, .ref rO, .ref rU, .ref rT, .int rg, .ref rS, .ref rB, .ref rP, .ref rG, .long ab0, .long be0, .int mk, .ref rM, .int md, .ref rN, .ref rL, .ref rZ, .ref rE, .ref rI, .int hc, .ref rA, .ref rX, .int lnn, .ref rV, .ref rW, .int sl, .ref rC, .ref rF, .ref rQ, .ref rK, .ref rR, .ref rD])), (rL, .inl (E.2 1, 4, .inl La)), (rZ, .inl (E.2 1, 4, .inl (nA Sz))), (rE, .inl (E.2 1, 4, .inl (nA Sp))), (rI, .inl (E.2 1, 800, .inl (upd It (200 * kk + j) (fPM l2 v))))] : va_W) = [(m0, .inr (9, [.int sh, .ref rO, .ref rU, .ref rT, .int rg, .ref rS, .ref rB, .ref rP, .ref rG, .long ab0, .long be0, .int mk, .ref rM, .int md, .ref rN, .ref rL, .ref rZ, .ref rE, .ref rI, .int hc, .ref rA, .ref rX, .int lnn, .ref rV, .ref rW, .int sl, .ref rC, .ref rF, .ref rQ, .ref rK, .ref rR, .ref rD])), (rL, .inl (E.2 1, 4, .inl La)), (rZ, .inl (E.2 1, 4, .inl (nA Sz))), (rE, .inl (E.2 1, 4, .inl (nA Sp))), (rI, .inl (E.2 1, 800, .inl (upd It ((200 * kk) + j) v)))] := by first | (rw [fPM, if_pos c_85]; done) | (rw [fPM, if_neg c_85]; done)
    have hP9 : va_P E.1 vwCl [(m0, .inr (9, [.int sh, .ref rO, .ref rU, .ref rT, .int rg, .ref rS, .ref rB, .ref rP, .ref rG, .long ab0, .long be0, .int mk, .ref rM, .int md, .ref rN, .ref rL, .ref rZ, .ref rE, .ref rI, .int hc, .ref rA, .ref rX, .int lnn, .ref rV, .ref rW, .int sl, .ref rC, .ref rF, .ref rQ, .ref rK, .ref rR, .ref rD])), (rL, .inl (E.2 1, 4, .inl La)), (rZ, .inl (E.2 1, 4, .inl (nA Sz))), (rE, .inl (E.2 1, 4, .inl (nA Sp))), (rI, .inl (E.2 1, 800, .inl (upd It (200 * kk + j) (fPM l2 v))))] H := by rw [e9]; exact hP.sub [0, 1, 2, 3, 4] rfl
    have hD9 : va_D A [(m0, .inr (9, [.int sh, .ref rO, .ref rU, .ref rT, .int rg, .ref rS, .ref rB, .ref rP, .ref rG, .long ab0, .long be0, .int mk, .ref rM, .int md, .ref rN, .ref rL, .ref rZ, .ref rE, .ref rI, .int hc, .ref rA, .ref rX, .int lnn, .ref rV, .ref rW, .int sl, .ref rC, .ref rF, .ref rQ, .ref rK, .ref rR, .ref rD])), (rL, .inl (E.2 1, 4, .inl La)), (rZ, .inl (E.2 1, 4, .inl (nA Sz))), (rE, .inl (E.2 1, 4, .inl (nA Sp))), (rI, .inl (E.2 1, 800, .inl (upd It (200 * kk + j) (fPM l2 v))))] := by rw [e9]; exact hD.sub [0, 1, 2, 3, 4] (by decide) rfl
    exact W.iret (v := 1) hx hb hr (fun t9 ht9 hW9 => ⟨⟨1, (), rfl, rfl, ⟨by rw [ht9]; exact hP9, hD9⟩⟩, hS.F ht9⟩) hS.2.2 dX9_item_103
  · refine lv_iload hx hb dX9_item_88 (lv_at hl 4 rfl) ?_
    refine lv_bipush (v := 24) hx hb dX9_item_90 (by decide) ?_
    refine lv_ishl hx hb dX9_item_92 ?_
    refine lv_bipush (v := 24) hx hb dX9_item_93 (by decide) ?_
    refine lv_ishr hx hb dX9_item_95 ?_
    refine lv_goto (tgt := 101) hx hb dX9_item_96 (by decide) ?_
    refine va_iast hx hb hK hP hD hS 4 1 rfl rfl (vp_in_nI (by omega) (by omega)) dX9_item_101 (fun H locs hP hD hS => ?_)
    rw [nI_clamp (n := (200 * kk) + j) (by omega)] at hP hD
    have hP : va_P E.1 vwCl [(m0, .inr (9, [.int sh, .ref rO, .ref rU, .ref rT, .int rg, .ref rS, .ref rB, .ref rP, .ref rG, .long ab0, .long be0, .int mk, .ref rM, .int md, .ref rN, .ref rL, .ref rZ, .ref rE, .ref rI, .int hc, .ref rA, .ref rX, .int lnn, .ref rV, .ref rW, .int sl, .ref rC, .ref rF, .ref rQ, .ref rK, .ref rR, .ref rD])), (rL, .inl (E.2 1, 4, .inl La)), (rZ, .inl (E.2 1, 4, .inl (nA Sz))), (rE, .inl (E.2 1, 4, .inl (nA Sp))), (rI, .inl (E.2 1, 800, .inl (upd It ((200 * kk) + j) ((v <<< (24 &&& 31)) >>> (24 &&& 31)))))] H := hP
    have hD : va_D A [(m0, .inr (9, [.int sh, .ref rO, .ref rU, .ref rT, .int rg, .ref rS, .ref rB, .ref rP, .ref rG, .long ab0, .long be0, .int mk, .ref rM, .int md, .ref rN, .ref rL, .ref rZ, .ref rE, .ref rI, .int hc, .ref rA, .ref rX, .int lnn, .ref rV, .ref rW, .int sl, .ref rC, .ref rF, .ref rQ, .ref rK, .ref rR, .ref rD])), (rL, .inl (E.2 1, 4, .inl La)), (rZ, .inl (E.2 1, 4, .inl (nA Sz))), (rE, .inl (E.2 1, 4, .inl (nA Sp))), (rI, .inl (E.2 1, 800, .inl (upd It ((200 * kk) + j) ((v <<< (24 &&& 31)) >>> (24 &&& 31)))))] := hD
    refine lv_iconst (v := 1) hx hb dX9_item_102 (by decide) ?_
    have e9 : ([(m0, .inr (9, [.int sh, .ref rO, .ref rU, .ref rT, .int rg, .ref rS, .ref rB, .ref rP, .ref rG, .long ab0, .long be0, .int mk, .ref rM, .int md, .ref rN, .ref rL, .ref rZ, .ref rE, .ref rI, .int hc, .ref rA, .ref rX, .int lnn, .ref rV, .ref rW, .int sl, .ref rC, .ref rF, .ref rQ, .ref rK, .ref rR, .ref rD])), (rL, .inl (E.2 1, 4, .inl La)), (rZ, .inl (E.2 1, 4, .inl (nA Sz))), (rE, .inl (E.2 1, 4, .inl (nA Sp))), (rI, .inl (E.2 1, 800, .inl (upd It (200 * kk + j) (fPM l2 v))))] : va_W) = [(m0, .inr (9, [.int sh, .ref rO, .ref rU, .ref rT, .int rg, .ref rS, .ref rB, .ref rP, .ref rG, .long ab0, .long be0, .int mk, .ref rM, .int md, .ref rN, .ref rL, .ref rZ, .ref rE, .ref rI, .int hc, .ref rA, .ref rX, .int lnn, .ref rV, .ref rW, .int sl, .ref rC, .ref rF, .ref rQ, .ref rK, .ref rR, .ref rD])), (rL, .inl (E.2 1, 4, .inl La)), (rZ, .inl (E.2 1, 4, .inl (nA Sz))), (rE, .inl (E.2 1, 4, .inl (nA Sp))), (rI, .inl (E.2 1, 800, .inl (upd It ((200 * kk) + j) ((v <<< (24 &&& 31)) >>> (24 &&& 31)))))] := by first | (rw [fPM, if_pos c_85]; done) | (rw [fPM, if_neg c_85]; done)
    have hP9 : va_P E.1 vwCl [(m0, .inr (9, [.int sh, .ref rO, .ref rU, .ref rT, .int rg, .ref rS, .ref rB, .ref rP, .ref rG, .long ab0, .long be0, .int mk, .ref rM, .int md, .ref rN, .ref rL, .ref rZ, .ref rE, .ref rI, .int hc, .ref rA, .ref rX, .int lnn, .ref rV, .ref rW, .int sl, .ref rC, .ref rF, .ref rQ, .ref rK, .ref rR, .ref rD])), (rL, .inl (E.2 1, 4, .inl La)), (rZ, .inl (E.2 1, 4, .inl (nA Sz))), (rE, .inl (E.2 1, 4, .inl (nA Sp))), (rI, .inl (E.2 1, 800, .inl (upd It (200 * kk + j) (fPM l2 v))))] H := by rw [e9]; exact hP.sub [0, 1, 2, 3, 4] rfl
    have hD9 : va_D A [(m0, .inr (9, [.int sh, .ref rO, .ref rU, .ref rT, .int rg, .ref rS, .ref rB, .ref rP, .ref rG, .long ab0, .long be0, .int mk, .ref rM, .int md, .ref rN, .ref rL, .ref rZ, .ref rE, .ref rI, .int hc, .ref rA, .ref rX, .int lnn, .ref rV, .ref rW, .int sl, .ref rC, .ref rF, .ref rQ, .ref rK, .ref rR, .ref rD])), (rL, .inl (E.2 1, 4, .inl La)), (rZ, .inl (E.2 1, 4, .inl (nA Sz))), (rE, .inl (E.2 1, 4, .inl (nA Sp))), (rI, .inl (E.2 1, 800, .inl (upd It (200 * kk + j) (fPM l2 v))))] := by rw [e9]; exact hD.sub [0, 1, 2, 3, 4] (by decide) rfl
    exact W.iret (v := 1) hx hb hr (fun t9 ht9 hW9 => ⟨⟨1, (), rfl, rfl, ⟨by rw [ht9]; exact hP9, hD9⟩⟩, hS.F ht9⟩) hS.2.2 dX9_item_103
set_option maxHeartbeats 1000000 in
set_option maxRecDepth 100000 in
theorem c_X9_down (l : Launch) (E : EnvT) (a : Int64) (b : Int64) (hb0 : ¬ b = 0) : Met l yX9_down wsX9_down ({ frames := 0, cells := 0, slots := 0, locals := 0 }) (va_Pc [.long a, .long b] (PR E [])) (vp_Sl (fun r => r = fDn a b)) 0 0 (fun _ => False) := by
  refine Met.ofW (cc := cX9_down) (maxL := 6) (ret := (some .long)) (by decide +kernel) rfl ?_
  intro p e s m args below meth c s₁ B hml hv
  obtain ⟨rfl, hP, hE⟩ := hv
  have hx := B.exec
  have hb := B.bytes
  have hr := B.returns
  have hts := atoms_spec (ws := wsX9_down) B.pre
  have hown : s.vm.findClass RX9 = some m.cls := findClass_of_methodNamed B.named
  have hlocks := B.notSynchronized
  have hK := hE.1
  have hNN := hE.2.1
  have hl := lv_entry ([.long a, .long b]) (n := 6) (Nat.le_of_ble_eq_true rfl)
  rw [lg_entry_eq]
  generalize (lg_sl ([.long a, .long b]) ++ List.replicate (6 - (lg_sl ([.long a, .long b])).length) Slot.unset).toArray = ls at hl ⊢
  have hl : lv_has ls 6 [(0, .long a), (2, .long b)] := hl
  refine lv_lload_n hx hb dX9_down_0 rfl (lv_at hl 0 rfl) ?_
  refine lv_lload_n hx hb dX9_down_1 rfl (lv_at hl 1 rfl) ?_
  refine lv_ldiv hx hb dX9_down_2 (hb0) ?_
  refine lv_lstore (lv' := [(4, .long (a / b)), (0, .long a), (2, .long b)]) hx hb dX9_down_3 hl (by decide) rfl (fun ls hl => ?_)
  refine lv_lload_n hx hb dX9_down_5 rfl (lv_at hl 1 rfl) ?_
  refine lv_lload_n hx hb dX9_down_6 rfl (lv_at hl 2 rfl) ?_
  refine lv_lrem hx hb dX9_down_7 (hb0) ?_
  refine lv_lconst (v := 0) hx hb dX9_down_8 (by decide) ?_
  refine W.lcmp hx hb dX9_down_9 ?_
  refine lv_if_eq (tgt := 26) hx hb dX9_down_10 (by decide) (fun c_10 => ?_) (fun c_10 => ?_)
  · have c_10 := lc_eq c_10
    refine lv_lload hx hb dX9_down_26 (lv_at hl 0 rfl) ?_
    exact W.lret (v := a / b) hx hb hr (fun t9 ht9 hW9 => ⟨a / b, rfl, by first | exact (if_pos ⟨c_10, Int64.not_le.mp c_16⟩).symm | exact (if_neg (fun h9 => absurd h9.2 (Int64.not_lt.mpr c_16))).symm | exact (if_neg (fun h9 => h9.1 c_10)).symm, ht9⟩) (fun _ h => absurd h List.not_mem_nil) dX9_down_28
  · have c_10 := lc_eq_n c_10
    refine lv_lload_n hx hb dX9_down_13 rfl (lv_at hl 1 rfl) ?_
    refine lv_lconst (v := 0) hx hb dX9_down_14 (by decide) ?_
    refine W.lcmp hx hb dX9_down_15 ?_
    refine lv_if_ge (tgt := 26) hx hb dX9_down_16 (by decide) (fun c_16 => ?_) (fun c_16 => ?_)
    · have c_16 := lc_ge c_16
      refine lv_lload hx hb dX9_down_26 (lv_at hl 0 rfl) ?_
      exact W.lret (v := a / b) hx hb hr (fun t9 ht9 hW9 => ⟨a / b, rfl, by first | exact (if_pos ⟨c_10, Int64.not_le.mp c_16⟩).symm | exact (if_neg (fun h9 => absurd h9.2 (Int64.not_lt.mpr c_16))).symm | exact (if_neg (fun h9 => h9.1 c_10)).symm, ht9⟩) (fun _ h => absurd h List.not_mem_nil) dX9_down_28
    · have c_16 := lc_ge_n c_16
      refine lv_lload hx hb dX9_down_19 (lv_at hl 0 rfl) ?_
      refine lv_lconst (v := 1) hx hb dX9_down_21 (by decide) ?_
      refine lv_lsub hx hb dX9_down_22 ?_
      refine lv_goto (tgt := 28) hx hb dX9_down_23 (by decide) ?_
      exact W.lret (v := (a / b) - 1) hx hb hr (fun t9 ht9 hW9 => ⟨(a / b) - 1, rfl, by first | exact (if_pos ⟨c_10, Int64.not_le.mp c_16⟩).symm | exact (if_neg (fun h9 => absurd h9.2 (Int64.not_lt.mpr c_16))).symm | exact (if_neg (fun h9 => h9.1 c_10)).symm, ht9⟩) (fun _ h => absurd h List.not_mem_nil) dX9_down_28
set_option maxHeartbeats 1000000 in
set_option maxRecDepth 100000 in
theorem c_X9_heard (l : Launch) (E : EnvT) (m0 : Nat) (sh : Int32) (rO : Nat) (rU : Nat) (rT : Nat) (rg : Int32) (rS : Nat) (rB : Nat) (rP : Nat) (rG : Nat) (ab0 : Int64) (be0 : Int64) (mk : Int32) (rM : Nat) (md : Int32) (rN : Nat) (rL : Nat) (rZ : Nat) (rE : Nat) (rI : Nat) (hc : Int32) (rA : Nat) (rX : Nat) (lnn : Int32) (rV : Nat) (rW : Nat) (sl : Int32) (rC : Nat) (rF : Nat) (rQ : Nat) (rK : Nat) (rR : Nat) (rD : Nat) (Sp : Nat → Nat) (It : Nat → Int32) (kk : Nat) (t : Nat) (hk : kk < 4) (hs1 : 1 ≤ Sp kk) (hs2 : Sp kk ≤ 1000) (ht1 : t / Sp kk < 200) (ht2 : ¬ t % Sp kk = 0 → t / Sp kk + 1 < 200) (ht3 : t < 2 ^ 31) : Met l yX9_heard wsX9_heard ({ frames := 1, cells := 0, slots := 0, locals := 25 }) (va_Pc [.ref m0, .int (nI kk), .int (nI t)] (PR E [(m0, .inr (9, [.int sh, .ref rO, .ref rU, .ref rT, .int rg, .ref rS, .ref rB, .ref rP, .ref rG, .long ab0, .long be0, .int mk, .ref rM, .int md, .ref rN, .ref rL, .ref rZ, .ref rE, .ref rI, .int hc, .ref rA, .ref rX, .int lnn, .ref rV, .ref rW, .int sl, .ref rC, .ref rF, .ref rQ, .ref rK, .ref rR, .ref rD])), (rE, .inl (E.2 1, 4, .inl (nA Sp))), (rI, .inl (E.2 1, 800, .inl It))])) (vp_Sl (fun r => r = fHd It kk (Sp kk) t)) 0 0 (fun _ => False) := by
  refine Met.ofW (cc := cX9_heard) (maxL := 7) (ret := (some .long)) (by decide +kernel) rfl ?_
  intro p e s m args below meth c s₁ B hml hv
  obtain ⟨rfl, hP, hE⟩ := hv
  have hx := B.exec
  have hb := B.bytes
  have hr := B.returns
  have hts := atoms_spec (ws := wsX9_heard) B.pre
  have hown : s.vm.findClass RX9 = some m.cls := findClass_of_methodNamed B.named
  have hlocks := B.notSynchronized
  have hK := hE.1
  have hNN := hE.2.1
  have hinX9 : ∀ w ∈ wsX90, w ∈ wsX9_heard := fun w h => List.mem_cons_of_mem _ (List.mem_append_right _ h)
  have hl := lv_entry ([.ref m0, .int (nI kk), .int (nI t)]) (n := 7) (Nat.le_of_ble_eq_true rfl)
  rw [lg_entry_eq]
  generalize (lg_sl ([.ref m0, .int (nI kk), .int (nI t)]) ++ List.replicate (7 - (lg_sl ([.ref m0, .int (nI kk), .int (nI t)])).length) Slot.unset).toArray = ls at hl ⊢
  have hl : lv_has ls 7 [(0, .ref m0), (1, .int (nI kk)), (2, .int (nI t))] := hl
  have hq2 : t % Sp kk < Sp kk := Nat.mod_lt _ (by omega)
  refine lv_aload_n hx hb dX9_heard_0 rfl (lv_at hl 0 rfl) ?_
  refine va_get (D := E.1) (ci := 9) (v := .ref rE) (C := RX9) (T := TX9) (N := 32) hx hb hts hinX9 hown hK hP 0 rfl rfl 17 (by decide) (hts (.fieldLink RX9 48 "WornRingsModel" "steps" "[I") (by decide +kernel)) (fun _ h9 => h9) rfl dX9_heard_1 ?_
  refine lv_iload_n hx hb dX9_heard_4 rfl (lv_at hl 1 rfl) ?_
  refine va_iald hx hb hK hP 1 1 rfl rfl (vp_in_nI (by omega) (by omega)) dX9_heard_5 ?_
  rw [nI_clamp (n := kk) (by omega)]
  refine W.eq (g2 := F0 m 6 ls [.int (nI (Sp kk))]) rfl ?_
  refine lv_istore_n (lv' := [(3, .int (nI (Sp kk))), (0, .ref m0), (1, .int (nI kk)), (2, .int (nI t))]) hx hb dX9_heard_6 rfl hl (by decide) rfl (fun ls hl => ?_)
  refine lv_iload_n hx hb dX9_heard_7 rfl (lv_at hl 3 rfl) ?_
  refine lv_iload_n hx hb dX9_heard_8 rfl (lv_at hl 0 rfl) ?_
  refine lv_idiv hx hb dX9_heard_9 (nI_ne0 (by omega) (by omega)) ?_
  rw [show ((nI t) / (nI (Sp kk)) : Int32) = nI (t / (Sp kk)) from pk_div (a := t) (d := Sp kk) (by omega) (by omega) (by omega)]
  refine lv_istore (lv' := [(4, .int (nI (t / (Sp kk)))), (3, .int (nI (Sp kk))), (0, .ref m0), (1, .int (nI kk)), (2, .int (nI t))]) hx hb dX9_heard_10 hl (by decide) rfl (fun ls hl => ?_)
  refine lv_iload_n hx hb dX9_heard_12 rfl (lv_at hl 4 rfl) ?_
  refine lv_iload_n hx hb dX9_heard_13 rfl (lv_at hl 1 rfl) ?_
  refine lv_irem hx hb dX9_heard_14 (nI_ne0 (by omega) (by omega)) ?_
  rw [show ((nI t) - (nI t) / (nI (Sp kk)) * (nI (Sp kk)) : Int32) = nI (t % (Sp kk)) from pk_rem (a := t) (d := Sp kk) (by omega) (by omega) (by omega)]
  refine lv_istore (lv' := [(5, .int (nI (t % (Sp kk)))), (4, .int (nI (t / (Sp kk)))), (3, .int (nI (Sp kk))), (0, .ref m0), (1, .int (nI kk)), (2, .int (nI t))]) hx hb dX9_heard_15 hl (by decide) rfl (fun ls hl => ?_)
  refine lv_sipush (v := 200) hx hb dX9_heard_17 (by decide) ?_
  refine lv_iload_n hx hb dX9_heard_20 rfl (lv_at hl 4 rfl) ?_
  refine lv_imul hx hb dX9_heard_21 ?_
  rw [show ((200 : Int32) * (nI kk) : Int32) = nI (200 * kk) from pk_mul 200 kk]
  refine lv_iload hx hb dX9_heard_22 (lv_at hl 1 rfl) ?_
  refine lv_iadd hx hb dX9_heard_24 ?_
  rw [show ((nI (200 * kk)) + (nI (t / (Sp kk))) : Int32) = nI ((200 * kk) + (t / (Sp kk))) from nI_add (200 * kk) (t / (Sp kk))]
  refine lv_istore (lv' := [(6, .int (nI ((200 * kk) + (t / (Sp kk))))), (5, .int (nI (t % (Sp kk)))), (4, .int (nI (t / (Sp kk)))), (3, .int (nI (Sp kk))), (0, .ref m0), (1, .int (nI kk)), (2, .int (nI t))]) hx hb dX9_heard_25 hl (by decide) rfl (fun ls hl => ?_)
  refine lv_iload hx hb dX9_heard_27 (lv_at hl 1 rfl) ?_
  refine lv_if_ne (tgt := 43) hx hb dX9_heard_29 (by decide) (fun c_29 => ?_) (fun c_29 => ?_)
  · have c_29 : ¬ (t % (Sp kk)) = 0 := fun h9 => c_29 ((nI_eq (a := t % (Sp kk)) (b := 0) (by omega) (by omega)).mpr h9)
    have ht4 := ht2 c_29
    refine lv_aload_n hx hb dX9_heard_43 rfl (lv_at hl 4 rfl) ?_
    refine va_get (D := E.1) (ci := 9) (v := .ref rI) (C := RX9) (T := TX9) (N := 32) hx hb hts hinX9 hown hK hP 0 rfl rfl 18 (by decide) (hts (.fieldLink RX9 51 "WornRingsModel" "items" "[I") (by decide +kernel)) (fun _ h9 => h9) rfl dX9_heard_44 ?_
    refine lv_iload hx hb dX9_heard_47 (lv_at hl 0 rfl) ?_
    refine va_iald hx hb hK hP 2 1 rfl rfl (vp_in_nI (by omega) (by omega)) dX9_heard_49 ?_
    rw [nI_clamp (n := (200 * kk) + (t / (Sp kk))) (by omega)]
    refine lv_i2l (v := (It ((200 * kk) + (t / (Sp kk)))).toInt64) hx hb dX9_heard_50 (rfl) ?_
    refine lv_iload_n hx hb dX9_heard_51 rfl (lv_at hl 3 rfl) ?_
    refine lv_iload hx hb dX9_heard_52 (lv_at hl 1 rfl) ?_
    refine lv_isub hx hb dX9_heard_54 ?_
    rw [show ((nI (Sp kk)) - (nI (t % (Sp kk))) : Int32) = nI ((Sp kk) - (t % (Sp kk))) from pk_sub (a := (Sp kk)) (b := (t % (Sp kk))) (by omega)]
    refine lv_i2l (v := lN ((Sp kk) - (t % (Sp kk)))) hx hb dX9_heard_55 (nI_l (by omega)) ?_
    refine lv_lmul hx hb dX9_heard_56 ?_
    refine lv_aload_n hx hb dX9_heard_57 rfl (lv_at hl 4 rfl) ?_
    refine va_get (D := E.1) (ci := 9) (v := .ref rI) (C := RX9) (T := TX9) (N := 32) hx hb hts hinX9 hown hK hP 0 rfl rfl 18 (by decide) (hts (.fieldLink RX9 51 "WornRingsModel" "items" "[I") (by decide +kernel)) (fun _ h9 => h9) rfl dX9_heard_58 ?_
    refine lv_iload hx hb dX9_heard_61 (lv_at hl 0 rfl) ?_
    refine lv_iconst (v := 1) hx hb dX9_heard_63 (by decide) ?_
    refine lv_iadd hx hb dX9_heard_64 ?_
    rw [show ((nI ((200 * kk) + (t / (Sp kk)))) + (1 : Int32) : Int32) = nI (((200 * kk) + (t / (Sp kk))) + 1) from nI_add ((200 * kk) + (t / (Sp kk))) 1]
    refine va_iald hx hb hK hP 2 1 rfl rfl (vp_in_nI (by omega) (by omega)) dX9_heard_65 ?_
    rw [nI_clamp (n := ((200 * kk) + (t / (Sp kk))) + 1) (by omega)]
    refine lv_i2l (v := (It (((200 * kk) + (t / (Sp kk))) + 1)).toInt64) hx hb dX9_heard_66 (rfl) ?_
    refine lv_iload hx hb dX9_heard_67 (lv_at hl 1 rfl) ?_
    refine lv_i2l (v := lN (t % (Sp kk))) hx hb dX9_heard_69 (nI_l (by omega)) ?_
    refine lv_lmul hx hb dX9_heard_70 ?_
    refine lv_ladd hx hb dX9_heard_71 ?_
    refine lv_iload_n hx hb dX9_heard_72 rfl (lv_at hl 3 rfl) ?_
    refine lv_i2l (v := lN (Sp kk)) hx hb dX9_heard_73 (nI_l (by omega)) ?_
    refine rSl hE ⟨hx, hb, hml, hown, hts⟩ (c_X9_down l E ((((It ((200 * kk) + (t / (Sp kk)))).toInt64) * (lN ((Sp kk) - (t % (Sp kk))))) + (((It (((200 * kk) + (t / (Sp kk))) + 1)).toInt64) * (lN (t % (Sp kk))))) (lN (Sp kk)) (lN_ne (by omega) (by omega))) (va_cwS 2 hts gX9_heard_X9_down rfl rfl rfl (by decide +kernel) ⟨Nat.le_of_ble_eq_true rfl, Nat.le_of_ble_eq_true rfl⟩) (hP.sub [] rfl) rfl hl.1 rfl (Nat.le_of_ble_eq_true rfl) dX9_heard_74 ⟨(Nat.zero_le _), (Nat.zero_le _)⟩ ?_
    exact W.lret (v := fDn ((((It ((200 * kk) + (t / (Sp kk)))).toInt64) * (lN ((Sp kk) - (t % (Sp kk))))) + (((It (((200 * kk) + (t / (Sp kk))) + 1)).toInt64) * (lN (t % (Sp kk))))) (lN (Sp kk))) hx hb hr (fun t9 ht9 hW9 => ⟨fDn ((((It ((200 * kk) + (t / (Sp kk)))).toInt64) * (lN ((Sp kk) - (t % (Sp kk))))) + (((It (((200 * kk) + (t / (Sp kk))) + 1)).toInt64) * (lN (t % (Sp kk))))) (lN (Sp kk)), rfl, by first | (rw [fHd, if_pos c_29]; done) | (rw [fHd, if_neg c_29]; done), ht9⟩) (fun _ h => absurd h List.not_mem_nil) dX9_heard_77
  · have c_29 : (t % (Sp kk)) = 0 := (nI_eq (a := t % (Sp kk)) (b := 0) (by omega) (by omega)).mp c_29
    refine lv_aload_n hx hb dX9_heard_32 rfl (lv_at hl 4 rfl) ?_
    refine va_get (D := E.1) (ci := 9) (v := .ref rI) (C := RX9) (T := TX9) (N := 32) hx hb hts hinX9 hown hK hP 0 rfl rfl 18 (by decide) (hts (.fieldLink RX9 51 "WornRingsModel" "items" "[I") (by decide +kernel)) (fun _ h9 => h9) rfl dX9_heard_33 ?_
    refine lv_iload hx hb dX9_heard_36 (lv_at hl 0 rfl) ?_
    refine va_iald hx hb hK hP 2 1 rfl rfl (vp_in_nI (by omega) (by omega)) dX9_heard_38 ?_
    rw [nI_clamp (n := (200 * kk) + (t / (Sp kk))) (by omega)]
    refine lv_i2l (v := (It ((200 * kk) + (t / (Sp kk)))).toInt64) hx hb dX9_heard_39 (rfl) ?_
    refine lv_goto (tgt := 77) hx hb dX9_heard_40 (by decide) ?_
    exact W.lret (v := (It ((200 * kk) + (t / (Sp kk)))).toInt64) hx hb hr (fun t9 ht9 hW9 => ⟨(It ((200 * kk) + (t / (Sp kk)))).toInt64, rfl, by first | (rw [fHd, if_pos c_29]; done) | (rw [fHd, if_neg c_29]; done), ht9⟩) (fun _ h => absurd h List.not_mem_nil) dX9_heard_77
set_option maxHeartbeats 1000000 in
set_option maxRecDepth 100000 in
theorem c_X9_mean (l : Launch) (E : EnvT) (m0 : Nat) (sh : Int32) (rO : Nat) (rU : Nat) (rT : Nat) (rg : Int32) (rS : Nat) (rB : Nat) (rP : Nat) (rG : Nat) (ab0 : Int64) (be0 : Int64) (mk : Int32) (rM : Nat) (md : Int32) (rN : Nat) (rL : Nat) (rZ : Nat) (rE : Nat) (rI : Nat) (hc : Int32) (rA : Nat) (rX : Nat) (lnn : Int32) (rV : Nat) (rW : Nat) (sl : Int32) (rC : Nat) (rF : Nat) (rQ : Nat) (rK : Nat) (rR : Nat) (rD : Nat) (gm : Nat → Int32) (jv : Int32)  : Met l yX9_mean wsX9_mean ({ frames := 1, cells := 0, slots := 0, locals := 25 }) (va_Pc [.ref m0, .int jv] (PR E [(m0, .inr (9, [.int sh, .ref rO, .ref rU, .ref rT, .int rg, .ref rS, .ref rB, .ref rP, .ref rG, .long ab0, .long be0, .int mk, .ref rM, .int md, .ref rN, .ref rL, .ref rZ, .ref rE, .ref rI, .int hc, .ref rA, .ref rX, .int lnn, .ref rV, .ref rW, .int sl, .ref rC, .ref rF, .ref rQ, .ref rK, .ref rR, .ref rD])), (rA, .inl (E.2 1, 32, .inl gm))])) (vp_Si (fun r => r = if 0 ≤ jv ∧ jv ≤ 31 then (if hc = 0 then -1000002 else gm jv.toNatClampNeg) else -1000001)) 0 0 (fun _ => False) := by
  refine Met.ofW (cc := cX9_mean) (maxL := 2) (ret := (some .int)) (by decide +kernel) rfl ?_
  intro p e s m args below meth c s₁ B hml hv
  obtain ⟨rfl, hP, hE⟩ := hv
  have hx := B.exec
  have hb := B.bytes
  have hr := B.returns
  have hts := atoms_spec (ws := wsX9_mean) B.pre
  have hown : s.vm.findClass RX9 = some m.cls := findClass_of_methodNamed B.named
  have hlocks := B.notSynchronized
  have hK := hE.1
  have hNN := hE.2.1
  have hinX9 : ∀ w ∈ wsX90, w ∈ wsX9_mean := fun w h => List.mem_cons_of_mem _ (List.mem_append_right _ h)
  have hl := lv_entry ([.ref m0, .int jv]) (n := 2) (Nat.le_of_ble_eq_true rfl)
  rw [lg_entry_eq]
  generalize (lg_sl ([.ref m0, .int jv]) ++ List.replicate (2 - (lg_sl ([.ref m0, .int jv])).length) Slot.unset).toArray = ls at hl ⊢
  have hl : lv_has ls 2 [(0, .ref m0), (1, .int jv)] := hl
  refine lv_iload_n hx hb dX9_mean_0 rfl (lv_at hl 1 rfl) ?_
  refine lv_i2l (v := jv.toInt64) hx hb dX9_mean_1 (rfl) ?_
  refine lv_lconst (v := 0) hx hb dX9_mean_2 (by decide) ?_
  refine lv_ldc2 (v := 31) hx hb hown (hts (.constantLong RX9 187 (31)) (by decide +kernel)) dX9_mean_3 ?_
  refine rSi hE ⟨hx, hb, hml, hown, hts⟩ (c_X9_in l E jv.toInt64 0 31 ) (va_cwS 3 hts gX9_mean_X9_in rfl rfl rfl (by decide +kernel) ⟨Nat.le_of_ble_eq_true rfl, Nat.le_of_ble_eq_true rfl⟩) (hP.sub [] rfl) rfl hl.1 rfl (Nat.le_of_ble_eq_true rfl) dX9_mean_6 ⟨(Nat.zero_le _), (Nat.zero_le _)⟩ ?_
  rw [show fIn jv.toInt64 0 31 = fWi jv 0 31 from fIn_c (rfl) (by decide) (by decide)]
  refine lv_if_ne (tgt := 17) hx hb dX9_mean_9 (by decide) (fun c_9 => ?_) (fun c_9 => ?_)
  · have c_9 := fWi_1 c_9
    obtain ⟨j, hj9, rfl⟩ : ∃ j : Nat, j ≤ 31 ∧ jv = nI j := nI_of2 (by decide) (Int32.not_lt.mpr c_9.1) c_9.2
    refine lv_aload_n hx hb dX9_mean_17 rfl (lv_at hl 0 rfl) ?_
    refine va_get (D := E.1) (ci := 9) (v := .int hc) (C := RX9) (T := TX9) (N := 32) hx hb hts hinX9 hown hK hP 0 rfl rfl 19 (by decide) (hts (.fieldLink RX9 183 "WornRingsModel" "hasCut" "Z") (by decide +kernel)) (fun _ h9 => h9) rfl dX9_mean_18 ?_
    refine lv_if_eq (tgt := 33) hx hb dX9_mean_21 (by decide) (fun c_21 => ?_) (fun c_21 => ?_)
    · refine lv_ldc (v := (-1000002)) hx hb hown (hts (.constant RX9 190 (-1000002)) (by decide +kernel)) dX9_mean_33 ?_
      exact W.iret (v := (-1000002)) hx hb hr (fun t9 ht9 hW9 => ⟨(-1000002), rfl, by first | exact (if_neg c_9).symm | (rw [if_pos c_9, if_pos c_21]; done) | (rw [if_pos c_9, if_neg c_21]; done), ht9⟩) (fun _ h => absurd h List.not_mem_nil) dX9_mean_35
    · refine lv_aload_n hx hb dX9_mean_24 rfl (lv_at hl 0 rfl) ?_
      refine va_get (D := E.1) (ci := 9) (v := .ref rA) (C := RX9) (T := TX9) (N := 32) hx hb hts hinX9 hown hK hP 0 rfl rfl 20 (by decide) (hts (.fieldLink RX9 54 "WornRingsModel" "mean" "[I") (by decide +kernel)) (fun _ h9 => h9) rfl dX9_mean_25 ?_
      refine lv_iload_n hx hb dX9_mean_28 rfl (lv_at hl 1 rfl) ?_
      refine va_iald hx hb hK hP 1 1 rfl rfl (vp_in_nI (by omega) (by omega)) dX9_mean_29 ?_
      rw [nI_clamp (n := j) (by omega)]
      refine lv_goto (tgt := 35) hx hb dX9_mean_30 (by decide) ?_
      exact W.iret (v := gm j) hx hb hr (fun t9 ht9 hW9 => ⟨gm j, rfl, by first | exact (if_neg c_9).symm | (rw [if_pos c_9, if_pos c_21]; done) | (rw [if_pos c_9, if_neg c_21]; done), ht9⟩) (fun _ h => absurd h List.not_mem_nil) dX9_mean_35
  · have c_9 := fWi_0 c_9
    refine lv_ldc (v := (-1000001)) hx hb hown (hts (.constant RX9 189 (-1000001)) (by decide +kernel)) dX9_mean_12 ?_
    refine lv_goto (tgt := 35) hx hb dX9_mean_14 (by decide) ?_
    exact W.iret (v := (-1000001)) hx hb hr (fun t9 ht9 hW9 => ⟨(-1000001), rfl, by first | exact (if_neg c_9).symm | (rw [if_pos c_9, if_pos c_21]; done) | (rw [if_pos c_9, if_neg c_21]; done), ht9⟩) (fun _ h => absurd h List.not_mem_nil) dX9_mean_35
