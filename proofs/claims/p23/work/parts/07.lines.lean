/-! Lines -/
theorem shl1 : ∀ k, k < 31 → (1 : Int32) <<< (nI k &&& 31) = nI (2 ^ k) := by decide +kernel
theorem xx_and (a b : Nat) : nI a &&& nI b = nI (a &&& b) := by
  apply Int32.toBitVec_inj.1
  show BitVec.ofNat 32 a &&& BitVec.ofNat 32 b = BitVec.ofNat 32 (a &&& b)
  apply BitVec.eq_of_getLsbD_eq
  intro i hi
  simp [hi]
theorem xx_or (a b : Nat) : nI a ||| nI b = nI (a ||| b) := by
  apply Int32.toBitVec_inj.1
  show BitVec.ofNat 32 a ||| BitVec.ofNat 32 b = BitVec.ofNat 32 (a ||| b)
  apply BitVec.eq_of_getLsbD_eq
  intro i hi
  simp [hi]
theorem or_bit {a k : Nat} (h : a < 2 ^ k) : nI a ||| nI (2 ^ k) = nI (a + 2 ^ k) := by
  rw [xx_or, Nat.or_comm]
  have h1 := Nat.two_pow_add_eq_or_of_lt h 1
  rw [Nat.mul_one] at h1
  rw [← h1, Nat.add_comm]
def absL (x : Int64) : Int64 := if 0 < x then x else -x
def nearB (T B : Nat → Int32) (th : Nat) (ta tb : Int64) (i : Nat) : Bool := decide (¬ lN th * (ta * (B i).toInt64) < absL ((T i).toInt64 * tb - ta * (B i).toInt64) * 1000)
def nearN (T B : Nat → Int32) (th : Nat) (ta tb : Int64) : Nat → Nat
  | 0 => 0
  | i + 1 => nearN T B th ta tb i + (if nearB T B th ta tb i then 2 ^ i else 0)
theorem nearN_t {T B : Nat → Int32} {th : Nat} {ta tb : Int64} {i : Nat} (h : ¬ lN th * (ta * (B i).toInt64) < absL ((T i).toInt64 * tb - ta * (B i).toInt64) * 1000) : nearN T B th ta tb (i + 1) = nearN T B th ta tb i + 2 ^ i := by
  have h1 : nearB T B th ta tb i = true := decide_eq_true h
  rw [nearN, if_pos h1]
theorem nearN_f {T B : Nat → Int32} {th : Nat} {ta tb : Int64} {i : Nat} (h : lN th * (ta * (B i).toInt64) < absL ((T i).toInt64 * tb - ta * (B i).toInt64) * 1000) : nearN T B th ta tb (i + 1) = nearN T B th ta tb i := by
  have h1 : nearB T B th ta tb i = false := decide_eq_false (fun h2 => h2 h)
  rw [nearN, h1]; rfl
theorem nearN_lt (T B : Nat → Int32) (th : Nat) (ta tb : Int64) : ∀ n, nearN T B th ta tb n < 2 ^ n
  | 0 => by simp [nearN]
  | n + 1 => by
    have h := nearN_lt T B th ta tb n
    simp only [nearN, Nat.pow_succ]; split <;> omega
theorem nearN_lt2 (T B : Nat → Int32) (th : Nat) (ta tb : Int64) {n : Nat} (h : n ≤ 12) : nearN T B th ta tb n < 4096 :=
  Nat.lt_of_lt_of_le (nearN_lt T B th ta tb n) (Nat.pow_le_pow_right (by omega) h : 2 ^ n ≤ 2 ^ 12)
def expN (T B : Nat → Int32) (th n : Nat) (fa fb : Nat → Int64) : Nat → Nat
  | 0 => 0
  | i + 1 => expN T B th n fa fb i ||| nearN T B th (fa i) (fb i) n
theorem expN_lt (T B : Nat → Int32) (th n : Nat) (fa fb : Nat → Int64) (h : n ≤ 12) : ∀ i, expN T B th n fa fb i < 4096
  | 0 => by simp [expN]
  | i + 1 => Nat.or_lt_two_pow (n := 12) (expN_lt T B th n fa fb h i) (nearN_lt2 T B th (fa i) (fb i) h)
def allS (T B : Nat → Int32) (th n : Nat) (fa fb : Nat → Int64) : Nat → Bool
  | 0 => true
  | i + 1 => allS T B th n fa fb i && decide (¬ nearN T B th (fa i) (fb i) n = 0)
theorem allS_no {T B : Nat → Int32} {th n : Nat} {fa fb : Nat → Int64} {i : Nat} (h : allS T B th n fa fb i = false) : ∀ k, allS T B th n fa fb (i + k) = false
  | 0 => h
  | k + 1 => by
    have h1 := allS_no h k
    rw [show i + (k + 1) = (i + k) + 1 by omega, allS, h1]; rfl
theorem ite1_0 {P : Prop} [Decidable P] (h : (if P then (1 : Int32) else 0) = 0) : ¬ P := by
  intro h2; rw [if_pos h2] at h; exact absurd h (by decide)
theorem ite1_1 {P : Prop} [Decidable P] (h : ¬ (if P then (1 : Int32) else 0) = 0) : P := by
  rcases Classical.em P with h2 | h2
  · exact h2
  · exact absurd (if_neg h2) h

set_option maxHeartbeats 1000000 in
set_option maxRecDepth 100000 in
theorem c_X1_init (l : Launch) (E : EnvT) (sz : Nat) (h0 : Nat)  : Met l yX1_init wsX1_init ({ frames := 1, cells := 2, slots := 24, locals := 20 }) (va_Pc [.ref h0] (PW E [(h0, .inr (1, [.null, .null, .int 0, .int 0]))] sz)) (va_Qv (fun (uu : Nat × Nat) => True) (fun (uu : Nat × Nat) t => BW E (va_A [(h0, .inr (1, [.null, .null, .int 0, .int 0]))] sz) [(h0, .inr (1, [.ref uu.1, .ref uu.2, .int 0, .int 10])), (uu.1, .inl (E.2 1, 12, .inl (fun _ => 0))), (uu.2, .inl (E.2 1, 12, .inl (fun _ => 0)))] t) (va_A [(h0, .inr (1, [.null, .null, .int 0, .int 0]))] sz)) 2 24 (va_A [(h0, .inr (1, [.null, .null, .int 0, .int 0]))] sz) := by
  refine Met.ofW (cc := cX1_init) (maxL := 1) (ret := none) (by decide +kernel) rfl ?_
  intro p e s m args below meth c s₁ B hml hv
  obtain ⟨rfl, hsz, hP, hE, hD0⟩ := hv
  have hx := B.exec
  have hb := B.bytes
  have hr := B.returns
  have hts := atoms_spec (ws := wsX1_init) B.pre
  have hown : s.vm.findClass RX1 = some m.cls := findClass_of_methodNamed B.named
  have hlocks := B.notSynchronized
  have hK := hE.1
  have hNN := hE.2.1
  have hin : meth.name = "<init>" := (name_of_methodNamed B.named B.method).1
  have hinX1 : ∀ w ∈ wsX10, w ∈ wsX1_init := fun w h => List.mem_cons_of_mem _ (List.mem_append_right _ h)
  subst hsz
  have hD := hD0.self (sz := s.heap.size)
  generalize hAe : va_A [(h0, .inr (1, [.null, .null, .int 0, .int 0]))] s.heap.size = A at hD ⊢
  have hA : ∀ q : Nat, s.heap.size ≤ q → A q := fun q h => by rw [← hAe]; exact Or.inr h
  have hS : va_S A s.heap s.heap [] := va_S.rf
  have hl := lv_entry ([.ref h0]) (n := 1) (Nat.le_of_ble_eq_true rfl)
  rw [lg_entry_eq]
  generalize (lg_sl ([.ref h0]) ++ List.replicate (1 - (lg_sl ([.ref h0])).length) Slot.unset).toArray = ls at hl ⊢
  have hl : lv_has ls 1 [(0, .ref h0)] := hl
  refine lv_aload_n hx hb dX1_init_0 rfl (lv_at hl 0 rfl) ?_
  refine W.objInit hx hb hown (hts (.methodLink RX1 3 objectInit) (by decide +kernel)) (hts (.instanceMethod objectInit) (by decide +kernel)) (hts _ (List.mem_cons_of_mem _ (List.mem_append_left _ (List.mem_of_getElem? (i := 2) rfl)))) rfl (by rw [hml]; exact hl.1) rfl dX1_init_1 (Nat.le_of_ble_eq_true rfl) (Nat.le_of_ble_eq_true rfl) ?_
  refine W.eq (g2 := F0 m 4 ls []) rfl ?_
  refine lv_aload_n hx hb dX1_init_4 rfl (lv_at hl 0 rfl) ?_
  refine lv_bipush (v := 12) hx hb dX1_init_5 (by decide) ?_
  refine va_newa (atype := .int) (ty := .int) (N' := 12) (a0 := (12, .inl (fun _ => 0))) hx hb (hts (.arrayClass .int) (by decide +kernel)) rfl hK hP hD hS hA (newI _) (by decide) (by decide) (bytesI (Nat.le_of_ble_eq_true rfl)) (Nat.le_of_ble_eq_true rfl) (Nat.le_of_ble_eq_true rfl) dX1_init_7 (fun q7 cA H hK9 hP hD hS => ?_)
  obtain rfl : cA = E.2 1 := arrcl hK9 1 rfl rfl
  have hP : va_P E.1 vwCl [(h0, .inr (1, [.null, .null, .int 0, .int 0])), (q7, .inl (E.2 1, 12, .inl (fun _ => 0)))] H := hP
  have hD : va_D A [(h0, .inr (1, [.null, .null, .int 0, .int 0])), (q7, .inl (E.2 1, 12, .inl (fun _ => 0)))] := hD
  refine W.widen (k := 1) (n := 12) (by omega) (by omega) ?_
  refine va_putF (D := E.1) (ci := 1) (v := .ref q7) (ty := .array .int) (C := RX1) (T := TX1) (N := 4) hx hb hts hinX1 tyX1 tyX1_ok nmX1 hown hK hP hD hS 0 rfl rfl 0 (by decide) (hts (.fieldLink RX1 9 "WornRings$Lines" "above" "[I") (by decide +kernel)) (fun _ h9 => h9) rfl hin rfl (by decide +kernel) (rfl) (rfl) (Nat.le_of_ble_eq_true rfl) dX1_init_9 (fun H locs hP hD hS => ?_)
  have hP : va_P E.1 vwCl [(h0, .inr (1, [.ref q7, .null, .int 0, .int 0])), (q7, .inl (E.2 1, 12, .inl (fun _ => 0)))] H := hP
  have hD : va_D A [(h0, .inr (1, [.ref q7, .null, .int 0, .int 0])), (q7, .inl (E.2 1, 12, .inl (fun _ => 0)))] := hD
  refine lv_aload_n hx hb dX1_init_12 rfl (lv_at hl 0 rfl) ?_
  refine lv_bipush (v := 12) hx hb dX1_init_13 (by decide) ?_
  refine va_newa (atype := .int) (ty := .int) (N' := 12) (a0 := (12, .inl (fun _ => 0))) hx hb (hts (.arrayClass .int) (by decide +kernel)) rfl hK hP hD hS hA (newI _) (by decide) (by decide) (bytesI (Nat.le_of_ble_eq_true rfl)) (Nat.le_of_ble_eq_true rfl) (Nat.le_of_ble_eq_true rfl) dX1_init_15 (fun q15 cA H hK9 hP hD hS => ?_)
  obtain rfl : cA = E.2 1 := arrcl hK9 1 rfl rfl
  have hP : va_P E.1 vwCl [(h0, .inr (1, [.ref q7, .null, .int 0, .int 0])), (q7, .inl (E.2 1, 12, .inl (fun _ => 0))), (q15, .inl (E.2 1, 12, .inl (fun _ => 0)))] H := hP
  have hD : va_D A [(h0, .inr (1, [.ref q7, .null, .int 0, .int 0])), (q7, .inl (E.2 1, 12, .inl (fun _ => 0))), (q15, .inl (E.2 1, 12, .inl (fun _ => 0)))] := hD
  refine W.widen (k := 2) (n := 24) (by omega) (by omega) ?_
  refine va_putF (D := E.1) (ci := 1) (v := .ref q15) (ty := .array .int) (C := RX1) (T := TX1) (N := 4) hx hb hts hinX1 tyX1 tyX1_ok nmX1 hown hK hP hD hS 0 rfl rfl 1 (by decide) (hts (.fieldLink RX1 15 "WornRings$Lines" "below" "[I") (by decide +kernel)) (fun _ h9 => h9) rfl hin rfl (by decide +kernel) (rfl) (rfl) (Nat.le_of_ble_eq_true rfl) dX1_init_17 (fun H locs hP hD hS => ?_)
  have hP : va_P E.1 vwCl [(h0, .inr (1, [.ref q7, .ref q15, .int 0, .int 0])), (q7, .inl (E.2 1, 12, .inl (fun _ => 0))), (q15, .inl (E.2 1, 12, .inl (fun _ => 0)))] H := hP
  have hD : va_D A [(h0, .inr (1, [.ref q7, .ref q15, .int 0, .int 0])), (q7, .inl (E.2 1, 12, .inl (fun _ => 0))), (q15, .inl (E.2 1, 12, .inl (fun _ => 0)))] := hD
  refine lv_aload_n hx hb dX1_init_20 rfl (lv_at hl 0 rfl) ?_
  refine lv_bipush (v := 10) hx hb dX1_init_21 (by decide) ?_
  refine va_put (D := E.1) (ci := 1) (v := .int 10) (ty := .int) (C := RX1) (T := TX1) (N := 4) hx hb hts hinX1 tyX1 tyX1_ok nmX1 hown hK hP hD hS 0 rfl rfl 3 (by decide) (hts (.fieldLink RX1 18 "WornRings$Lines" "thousandths" "I") (by decide +kernel)) (fun _ h9 => h9) rfl (by decide +kernel) (rfl) (rfl) (Nat.le_of_ble_eq_true rfl) dX1_init_23 (fun H locs hP hD hS => ?_)
  have hP : va_P E.1 vwCl [(h0, .inr (1, [.ref q7, .ref q15, .int 0, .int 10])), (q7, .inl (E.2 1, 12, .inl (fun _ => 0))), (q15, .inl (E.2 1, 12, .inl (fun _ => 0)))] H := hP
  have hD : va_D A [(h0, .inr (1, [.ref q7, .ref q15, .int 0, .int 10])), (q7, .inl (E.2 1, 12, .inl (fun _ => 0))), (q15, .inl (E.2 1, 12, .inl (fun _ => 0)))] := hD
  have hP9 : va_P E.1 vwCl [(h0, .inr (1, [.ref q7, .ref q15, .int 0, .int 10])), (q7, .inl (E.2 1, 12, .inl (fun _ => 0))), (q15, .inl (E.2 1, 12, .inl (fun _ => 0)))] H := hP.sub [0, 1, 2] rfl
  have hD9 : va_D A [(h0, .inr (1, [.ref q7, .ref q15, .int 0, .int 10])), (q7, .inl (E.2 1, 12, .inl (fun _ => 0))), (q15, .inl (E.2 1, 12, .inl (fun _ => 0)))] := hD.sub [0, 1, 2] (by decide) rfl
  exact W.vret hx hb hr (fun t9 ht9 hW9 => ⟨⟨(q7, q15), rfl, trivial, ⟨by rw [ht9]; exact hP9, hD9⟩⟩, hS.F ht9⟩) hS.2.2 dX1_init_26
set_option maxHeartbeats 1000000 in
set_option maxRecDepth 100000 in
theorem c_X1_add_no (l : Launch) (E : EnvT) (sz : Nat) (h0 : Nat) (a1 : Nat) (a2 : Nat) (n : Nat) (th : Nat) (To : Nat → Int32) (Bo : Nat → Int32) (up : Int32) (dn : Int32) (hn : n ≤ 12) (hno : ¬ ((1 ≤ up ∧ up ≤ 10000) ∧ (1 ≤ dn ∧ dn ≤ 10000)) ∨ 12 ≤ n) : Met l yX1_add wsX1_add ({ frames := 1, cells := 0, slots := 0, locals := 22 }) (va_Pc [.ref h0, .int up, .int dn] (PW E [(h0, .inr (1, [.ref a1, .ref a2, .int (nI n), .int (nI th)])), (a1, .inl (E.2 1, 12, .inl To)), (a2, .inl (E.2 1, 12, .inl Bo))] sz)) (va_Qi (fun (r : Int32) (uu : Unit) => r = if (1 ≤ up ∧ up ≤ 10000) ∧ (1 ≤ dn ∧ dn ≤ 10000) then -3 else -1) (fun (uu : Unit) t => BW E (va_A [(h0, .inr (1, [.ref a1, .ref a2, .int (nI n), .int (nI th)])), (a1, .inl (E.2 1, 12, .inl To)), (a2, .inl (E.2 1, 12, .inl Bo))] sz) [(h0, .inr (1, [.ref a1, .ref a2, .int (nI n), .int (nI th)])), (a1, .inl (E.2 1, 12, .inl To)), (a2, .inl (E.2 1, 12, .inl Bo))] t) (va_A [(h0, .inr (1, [.ref a1, .ref a2, .int (nI n), .int (nI th)])), (a1, .inl (E.2 1, 12, .inl To)), (a2, .inl (E.2 1, 12, .inl Bo))] sz)) 0 0 (va_A [(h0, .inr (1, [.ref a1, .ref a2, .int (nI n), .int (nI th)])), (a1, .inl (E.2 1, 12, .inl To)), (a2, .inl (E.2 1, 12, .inl Bo))] sz) := by
  refine Met.ofW (cc := cX1_add) (maxL := 3) (ret := (some .int)) (by decide +kernel) rfl ?_
  intro p e s m args below meth c s₁ B hml hv
  obtain ⟨rfl, hsz, hP, hE, hD0⟩ := hv
  have hx := B.exec
  have hb := B.bytes
  have hr := B.returns
  have hts := atoms_spec (ws := wsX1_add) B.pre
  have hown : s.vm.findClass RX1 = some m.cls := findClass_of_methodNamed B.named
  have hlocks := B.notSynchronized
  have hK := hE.1
  have hNN := hE.2.1
  have hinX1 : ∀ w ∈ wsX10, w ∈ wsX1_add := fun w h => List.mem_cons_of_mem _ (List.mem_append_right _ h)
  subst hsz
  have hD := hD0.self (sz := s.heap.size)
  generalize hAe : va_A [(h0, .inr (1, [.ref a1, .ref a2, .int (nI n), .int (nI th)])), (a1, .inl (E.2 1, 12, .inl To)), (a2, .inl (E.2 1, 12, .inl Bo))] s.heap.size = A at hD ⊢
  have hA : ∀ q : Nat, s.heap.size ≤ q → A q := fun q h => by rw [← hAe]; exact Or.inr h
  have hS : va_S A s.heap s.heap [] := va_S.rf
  have hl := lv_entry ([.ref h0, .int up, .int dn]) (n := 3) (Nat.le_of_ble_eq_true rfl)
  rw [lg_entry_eq]
  generalize (lg_sl ([.ref h0, .int up, .int dn]) ++ List.replicate (3 - (lg_sl ([.ref h0, .int up, .int dn])).length) Slot.unset).toArray = ls at hl ⊢
  have hl : lv_has ls 3 [(0, .ref h0), (1, .int up), (2, .int dn)] := hl
  refine lv_iload_n hx hb dX1_add_0 rfl (lv_at hl 1 rfl) ?_
  refine lv_iconst (v := 1) hx hb dX1_add_1 (by decide) ?_
  refine lv_sipush (v := 10000) hx hb dX1_add_2 (by decide) ?_
  refine rSNi hE ⟨hx, hb, hml, hown, hts⟩ (c_X8_within l E up 1 10000 ) ⟨va_cnB 3 hts gX1_add_X8_within_n22 rfl rfl rfl (hNN (.methodLinkNest RX1 22 yX8_within "WornRings") (by decide +kernel)) (hts (.initialized RX8) (by decide +kernel)) (by decide +kernel) ⟨Nat.le_of_ble_eq_true rfl, Nat.le_of_ble_eq_true rfl⟩, hts (.static yX8_within) (by decide +kernel), trivial⟩ (hP.sub [] rfl) rfl hl.1 rfl (Nat.le_of_ble_eq_true rfl) dX1_add_5 ⟨(Nat.zero_le _), (Nat.zero_le _)⟩ ?_
  refine lv_if_eq (tgt := 22) hx hb dX1_add_8 (by decide) (fun c_8 => ?_) (fun c_8 => ?_)
  · have c_8 := fWi_0 c_8
    refine lv_iconst (v := (-1)) hx hb dX1_add_22 (by decide) ?_
    have hP9 : va_P E.1 vwCl [(h0, .inr (1, [.ref a1, .ref a2, .int (nI n), .int (nI th)])), (a1, .inl (E.2 1, 12, .inl To)), (a2, .inl (E.2 1, 12, .inl Bo))] s.heap := hP.sub [0, 1, 2] rfl
    have hD9 : va_D A [(h0, .inr (1, [.ref a1, .ref a2, .int (nI n), .int (nI th)])), (a1, .inl (E.2 1, 12, .inl To)), (a2, .inl (E.2 1, 12, .inl Bo))] := hD.sub [0, 1, 2] (by decide) rfl
    exact W.iret (v := (-1)) hx hb hr (fun t9 ht9 hW9 => ⟨⟨(-1), (), rfl, by first | exact (if_neg (fun h9 => c_8 h9.1)).symm | exact (if_neg (fun h9 => c_19 h9.2)).symm, ⟨by rw [ht9]; exact hP9, hD9⟩⟩, hS.F ht9⟩) hS.2.2 dX1_add_23
  · have c_8 := fWi_1 c_8
    refine lv_iload_n hx hb dX1_add_11 rfl (lv_at hl 2 rfl) ?_
    refine lv_iconst (v := 1) hx hb dX1_add_12 (by decide) ?_
    refine lv_sipush (v := 10000) hx hb dX1_add_13 (by decide) ?_
    refine rSNi hE ⟨hx, hb, hml, hown, hts⟩ (c_X8_within l E dn 1 10000 ) ⟨va_cnB 3 hts gX1_add_X8_within_n22 rfl rfl rfl (hNN (.methodLinkNest RX1 22 yX8_within "WornRings") (by decide +kernel)) (hts (.initialized RX8) (by decide +kernel)) (by decide +kernel) ⟨Nat.le_of_ble_eq_true rfl, Nat.le_of_ble_eq_true rfl⟩, hts (.static yX8_within) (by decide +kernel), trivial⟩ (hP.sub [] rfl) rfl hl.1 rfl (Nat.le_of_ble_eq_true rfl) dX1_add_16 ⟨(Nat.zero_le _), (Nat.zero_le _)⟩ ?_
    refine lv_if_ne (tgt := 24) hx hb dX1_add_19 (by decide) (fun c_19 => ?_) (fun c_19 => ?_)
    · have c_19 := fWi_1 c_19
      refine lv_aload_n hx hb dX1_add_24 rfl (lv_at hl 0 rfl) ?_
      refine va_get (D := E.1) (ci := 1) (v := .int (nI n)) (C := RX1) (T := TX1) (N := 4) hx hb hts hinX1 hown hK hP 0 rfl rfl 2 (by decide) (hts (.fieldLink RX1 26 "WornRings$Lines" "count" "I") (by decide +kernel)) (fun _ h9 => h9) rfl dX1_add_25 ?_
      refine lv_bipush (v := 12) hx hb dX1_add_28 (by decide) ?_
      refine lv_icmp_lt (tgt := 36) hx hb dX1_add_30 (by decide) (fun c_30 => by exfalso; have c_30 : n < 12 := (nI_ltI (a := n) (b := 12) (by omega) (by omega)).mp c_30; exact hno.elim (fun h9 => h9 ⟨c_8, c_19⟩) (fun h9 => by omega)) (fun c_30 => ?_)
      have c_30 : ¬ n < 12 := fun h9 => c_30 ((nI_ltI (a := n) (b := 12) (by omega) (by omega)).mpr h9)
      refine lv_bipush (v := (-3)) hx hb dX1_add_33 (by decide) ?_
      have hP9 : va_P E.1 vwCl [(h0, .inr (1, [.ref a1, .ref a2, .int (nI n), .int (nI th)])), (a1, .inl (E.2 1, 12, .inl To)), (a2, .inl (E.2 1, 12, .inl Bo))] s.heap := hP.sub [0, 1, 2] rfl
      have hD9 : va_D A [(h0, .inr (1, [.ref a1, .ref a2, .int (nI n), .int (nI th)])), (a1, .inl (E.2 1, 12, .inl To)), (a2, .inl (E.2 1, 12, .inl Bo))] := hD.sub [0, 1, 2] (by decide) rfl
      exact W.iret (v := (-3)) hx hb hr (fun t9 ht9 hW9 => ⟨⟨(-3), (), rfl, (if_pos ⟨c_8, c_19⟩).symm, ⟨by rw [ht9]; exact hP9, hD9⟩⟩, hS.F ht9⟩) hS.2.2 dX1_add_35
    · have c_19 := fWi_0 c_19
      refine lv_iconst (v := (-1)) hx hb dX1_add_22 (by decide) ?_
      have hP9 : va_P E.1 vwCl [(h0, .inr (1, [.ref a1, .ref a2, .int (nI n), .int (nI th)])), (a1, .inl (E.2 1, 12, .inl To)), (a2, .inl (E.2 1, 12, .inl Bo))] s.heap := hP.sub [0, 1, 2] rfl
      have hD9 : va_D A [(h0, .inr (1, [.ref a1, .ref a2, .int (nI n), .int (nI th)])), (a1, .inl (E.2 1, 12, .inl To)), (a2, .inl (E.2 1, 12, .inl Bo))] := hD.sub [0, 1, 2] (by decide) rfl
      exact W.iret (v := (-1)) hx hb hr (fun t9 ht9 hW9 => ⟨⟨(-1), (), rfl, by first | exact (if_neg (fun h9 => c_8 h9.1)).symm | exact (if_neg (fun h9 => c_19 h9.2)).symm, ⟨by rw [ht9]; exact hP9, hD9⟩⟩, hS.F ht9⟩) hS.2.2 dX1_add_23
set_option maxHeartbeats 1000000 in
set_option maxRecDepth 100000 in
theorem c_X1_add_yes (l : Launch) (E : EnvT) (sz : Nat) (h0 : Nat) (a1 : Nat) (a2 : Nat) (n : Nat) (th : Nat) (To : Nat → Int32) (Bo : Nat → Int32) (up : Int32) (dn : Int32) (hn : n < 12) (hy : (1 ≤ up ∧ up ≤ 10000) ∧ (1 ≤ dn ∧ dn ≤ 10000)) : Met l yX1_add wsX1_add ({ frames := 1, cells := 0, slots := 0, locals := 22 }) (va_Pc [.ref h0, .int up, .int dn] (PW E [(h0, .inr (1, [.ref a1, .ref a2, .int (nI n), .int (nI th)])), (a1, .inl (E.2 1, 12, .inl To)), (a2, .inl (E.2 1, 12, .inl Bo))] sz)) (va_Qi (fun (r : Int32) (uu : Unit) => r = nI n) (fun (uu : Unit) t => BW E (va_A [(h0, .inr (1, [.ref a1, .ref a2, .int (nI n), .int (nI th)])), (a1, .inl (E.2 1, 12, .inl To)), (a2, .inl (E.2 1, 12, .inl Bo))] sz) [(h0, .inr (1, [.ref a1, .ref a2, .int (nI (n + 1)), .int (nI th)])), (a1, .inl (E.2 1, 12, .inl (upd To n up))), (a2, .inl (E.2 1, 12, .inl (upd Bo n dn)))] t) (va_A [(h0, .inr (1, [.ref a1, .ref a2, .int (nI n), .int (nI th)])), (a1, .inl (E.2 1, 12, .inl To)), (a2, .inl (E.2 1, 12, .inl Bo))] sz)) 0 0 (va_A [(h0, .inr (1, [.ref a1, .ref a2, .int (nI n), .int (nI th)])), (a1, .inl (E.2 1, 12, .inl To)), (a2, .inl (E.2 1, 12, .inl Bo))] sz) := by
  refine Met.ofW (cc := cX1_add) (maxL := 3) (ret := (some .int)) (by decide +kernel) rfl ?_
  intro p e s m args below meth c s₁ B hml hv
  obtain ⟨rfl, hsz, hP, hE, hD0⟩ := hv
  have hx := B.exec
  have hb := B.bytes
  have hr := B.returns
  have hts := atoms_spec (ws := wsX1_add) B.pre
  have hown : s.vm.findClass RX1 = some m.cls := findClass_of_methodNamed B.named
  have hlocks := B.notSynchronized
  have hK := hE.1
  have hNN := hE.2.1
  have hinX1 : ∀ w ∈ wsX10, w ∈ wsX1_add := fun w h => List.mem_cons_of_mem _ (List.mem_append_right _ h)
  subst hsz
  have hD := hD0.self (sz := s.heap.size)
  generalize hAe : va_A [(h0, .inr (1, [.ref a1, .ref a2, .int (nI n), .int (nI th)])), (a1, .inl (E.2 1, 12, .inl To)), (a2, .inl (E.2 1, 12, .inl Bo))] s.heap.size = A at hD ⊢
  have hA : ∀ q : Nat, s.heap.size ≤ q → A q := fun q h => by rw [← hAe]; exact Or.inr h
  have hS : va_S A s.heap s.heap [] := va_S.rf
  have hl := lv_entry ([.ref h0, .int up, .int dn]) (n := 3) (Nat.le_of_ble_eq_true rfl)
  rw [lg_entry_eq]
  generalize (lg_sl ([.ref h0, .int up, .int dn]) ++ List.replicate (3 - (lg_sl ([.ref h0, .int up, .int dn])).length) Slot.unset).toArray = ls at hl ⊢
  have hl : lv_has ls 3 [(0, .ref h0), (1, .int up), (2, .int dn)] := hl
  refine lv_iload_n hx hb dX1_add_0 rfl (lv_at hl 1 rfl) ?_
  refine lv_iconst (v := 1) hx hb dX1_add_1 (by decide) ?_
  refine lv_sipush (v := 10000) hx hb dX1_add_2 (by decide) ?_
  refine rSNi hE ⟨hx, hb, hml, hown, hts⟩ (c_X8_within l E up 1 10000 ) ⟨va_cnB 3 hts gX1_add_X8_within_n22 rfl rfl rfl (hNN (.methodLinkNest RX1 22 yX8_within "WornRings") (by decide +kernel)) (hts (.initialized RX8) (by decide +kernel)) (by decide +kernel) ⟨Nat.le_of_ble_eq_true rfl, Nat.le_of_ble_eq_true rfl⟩, hts (.static yX8_within) (by decide +kernel), trivial⟩ (hP.sub [] rfl) rfl hl.1 rfl (Nat.le_of_ble_eq_true rfl) dX1_add_5 ⟨(Nat.zero_le _), (Nat.zero_le _)⟩ ?_
  refine lv_if_eq (tgt := 22) hx hb dX1_add_8 (by decide) (fun c_8 => by exfalso; have c_8 := fWi_0 c_8; exact c_8 hy.1) (fun c_8 => ?_)
  have c_8 := fWi_1 c_8
  refine lv_iload_n hx hb dX1_add_11 rfl (lv_at hl 2 rfl) ?_
  refine lv_iconst (v := 1) hx hb dX1_add_12 (by decide) ?_
  refine lv_sipush (v := 10000) hx hb dX1_add_13 (by decide) ?_
  refine rSNi hE ⟨hx, hb, hml, hown, hts⟩ (c_X8_within l E dn 1 10000 ) ⟨va_cnB 3 hts gX1_add_X8_within_n22 rfl rfl rfl (hNN (.methodLinkNest RX1 22 yX8_within "WornRings") (by decide +kernel)) (hts (.initialized RX8) (by decide +kernel)) (by decide +kernel) ⟨Nat.le_of_ble_eq_true rfl, Nat.le_of_ble_eq_true rfl⟩, hts (.static yX8_within) (by decide +kernel), trivial⟩ (hP.sub [] rfl) rfl hl.1 rfl (Nat.le_of_ble_eq_true rfl) dX1_add_16 ⟨(Nat.zero_le _), (Nat.zero_le _)⟩ ?_
  refine lv_if_ne (tgt := 24) hx hb dX1_add_19 (by decide) (fun c_19 => ?_) (fun c_19 => by exfalso; have c_19 := fWi_0 c_19; exact c_19 hy.2)
  have c_19 := fWi_1 c_19
  refine lv_aload_n hx hb dX1_add_24 rfl (lv_at hl 0 rfl) ?_
  refine va_get (D := E.1) (ci := 1) (v := .int (nI n)) (C := RX1) (T := TX1) (N := 4) hx hb hts hinX1 hown hK hP 0 rfl rfl 2 (by decide) (hts (.fieldLink RX1 26 "WornRings$Lines" "count" "I") (by decide +kernel)) (fun _ h9 => h9) rfl dX1_add_25 ?_
  refine lv_bipush (v := 12) hx hb dX1_add_28 (by decide) ?_
  refine lv_icmp_lt (tgt := 36) hx hb dX1_add_30 (by decide) (fun c_30 => ?_) (fun c_30 => by exfalso; have c_30 : ¬ n < 12 := fun h9 => c_30 ((nI_ltI (a := n) (b := 12) (by omega) (by omega)).mpr h9); omega)
  have c_30 : n < 12 := (nI_ltI (a := n) (b := 12) (by omega) (by omega)).mp c_30
  refine lv_aload_n hx hb dX1_add_36 rfl (lv_at hl 0 rfl) ?_
  refine va_get (D := E.1) (ci := 1) (v := .ref a1) (C := RX1) (T := TX1) (N := 4) hx hb hts hinX1 hown hK hP 0 rfl rfl 0 (by decide) (hts (.fieldLink RX1 9 "WornRings$Lines" "above" "[I") (by decide +kernel)) (fun _ h9 => h9) rfl dX1_add_37 ?_
  refine lv_aload_n hx hb dX1_add_40 rfl (lv_at hl 0 rfl) ?_
  refine va_get (D := E.1) (ci := 1) (v := .int (nI n)) (C := RX1) (T := TX1) (N := 4) hx hb hts hinX1 hown hK hP 0 rfl rfl 2 (by decide) (hts (.fieldLink RX1 26 "WornRings$Lines" "count" "I") (by decide +kernel)) (fun _ h9 => h9) rfl dX1_add_41 ?_
  refine lv_iload_n hx hb dX1_add_44 rfl (lv_at hl 1 rfl) ?_
  refine va_iast hx hb hK hP hD hS 1 1 rfl rfl (vp_in_nI (by omega) (by omega)) dX1_add_45 (fun H locs hP hD hS => ?_)
  rw [nI_clamp (n := n) (by omega)] at hP hD
  have hP : va_P E.1 vwCl [(h0, .inr (1, [.ref a1, .ref a2, .int (nI n), .int (nI th)])), (a1, .inl (E.2 1, 12, .inl (upd To n up))), (a2, .inl (E.2 1, 12, .inl Bo))] H := hP
  have hD : va_D A [(h0, .inr (1, [.ref a1, .ref a2, .int (nI n), .int (nI th)])), (a1, .inl (E.2 1, 12, .inl (upd To n up))), (a2, .inl (E.2 1, 12, .inl Bo))] := hD
  refine lv_aload_n hx hb dX1_add_46 rfl (lv_at hl 0 rfl) ?_
  refine va_get (D := E.1) (ci := 1) (v := .ref a2) (C := RX1) (T := TX1) (N := 4) hx hb hts hinX1 hown hK hP 0 rfl rfl 1 (by decide) (hts (.fieldLink RX1 15 "WornRings$Lines" "below" "[I") (by decide +kernel)) (fun _ h9 => h9) rfl dX1_add_47 ?_
  refine lv_aload_n hx hb dX1_add_50 rfl (lv_at hl 0 rfl) ?_
  refine va_get (D := E.1) (ci := 1) (v := .int (nI n)) (C := RX1) (T := TX1) (N := 4) hx hb hts hinX1 hown hK hP 0 rfl rfl 2 (by decide) (hts (.fieldLink RX1 26 "WornRings$Lines" "count" "I") (by decide +kernel)) (fun _ h9 => h9) rfl dX1_add_51 ?_
  refine lv_iload_n hx hb dX1_add_54 rfl (lv_at hl 2 rfl) ?_
  refine va_iast hx hb hK hP hD hS 2 1 rfl rfl (vp_in_nI (by omega) (by omega)) dX1_add_55 (fun H locs hP hD hS => ?_)
  rw [nI_clamp (n := n) (by omega)] at hP hD
  have hP : va_P E.1 vwCl [(h0, .inr (1, [.ref a1, .ref a2, .int (nI n), .int (nI th)])), (a1, .inl (E.2 1, 12, .inl (upd To n up))), (a2, .inl (E.2 1, 12, .inl (upd Bo n dn)))] H := hP
  have hD : va_D A [(h0, .inr (1, [.ref a1, .ref a2, .int (nI n), .int (nI th)])), (a1, .inl (E.2 1, 12, .inl (upd To n up))), (a2, .inl (E.2 1, 12, .inl (upd Bo n dn)))] := hD
  refine lv_aload_n hx hb dX1_add_56 rfl (lv_at hl 0 rfl) ?_
  refine lv_dup hx hb dX1_add_57 rfl ?_
  refine va_get (D := E.1) (ci := 1) (v := .int (nI n)) (C := RX1) (T := TX1) (N := 4) hx hb hts hinX1 hown hK hP 0 rfl rfl 2 (by decide) (hts (.fieldLink RX1 26 "WornRings$Lines" "count" "I") (by decide +kernel)) (fun _ h9 => h9) rfl dX1_add_58 ?_
  refine lv_iconst (v := 1) hx hb dX1_add_61 (by decide) ?_
  refine lv_iadd hx hb dX1_add_62 ?_
  rw [show ((nI n) + (1 : Int32) : Int32) = nI (n + 1) from nI_add n 1]
  refine va_put (D := E.1) (ci := 1) (v := .int (nI (n + 1))) (ty := .int) (C := RX1) (T := TX1) (N := 4) hx hb hts hinX1 tyX1 tyX1_ok nmX1 hown hK hP hD hS 0 rfl rfl 2 (by decide) (hts (.fieldLink RX1 26 "WornRings$Lines" "count" "I") (by decide +kernel)) (fun _ h9 => h9) rfl (by decide +kernel) (rfl) (rfl) (Nat.le_of_ble_eq_true rfl) dX1_add_63 (fun H locs hP hD hS => ?_)
  have hP : va_P E.1 vwCl [(h0, .inr (1, [.ref a1, .ref a2, .int (nI (n + 1)), .int (nI th)])), (a1, .inl (E.2 1, 12, .inl (upd To n up))), (a2, .inl (E.2 1, 12, .inl (upd Bo n dn)))] H := hP
  have hD : va_D A [(h0, .inr (1, [.ref a1, .ref a2, .int (nI (n + 1)), .int (nI th)])), (a1, .inl (E.2 1, 12, .inl (upd To n up))), (a2, .inl (E.2 1, 12, .inl (upd Bo n dn)))] := hD
  refine lv_aload_n hx hb dX1_add_66 rfl (lv_at hl 0 rfl) ?_
  refine va_get (D := E.1) (ci := 1) (v := .int (nI (n + 1))) (C := RX1) (T := TX1) (N := 4) hx hb hts hinX1 hown hK hP 0 rfl rfl 2 (by decide) (hts (.fieldLink RX1 26 "WornRings$Lines" "count" "I") (by decide +kernel)) (fun _ h9 => h9) rfl dX1_add_67 ?_
  refine lv_iconst (v := 1) hx hb dX1_add_70 (by decide) ?_
  refine lv_isub hx hb dX1_add_71 ?_
  rw [show ((nI (n + 1)) - (1 : Int32) : Int32) = nI ((n + 1) - 1) from pk_sub (a := (n + 1)) (b := 1) (by omega)]
  have hP9 : va_P E.1 vwCl [(h0, .inr (1, [.ref a1, .ref a2, .int (nI (n + 1)), .int (nI th)])), (a1, .inl (E.2 1, 12, .inl (upd To n up))), (a2, .inl (E.2 1, 12, .inl (upd Bo n dn)))] H := hP.sub [0, 1, 2] rfl
  have hD9 : va_D A [(h0, .inr (1, [.ref a1, .ref a2, .int (nI (n + 1)), .int (nI th)])), (a1, .inl (E.2 1, 12, .inl (upd To n up))), (a2, .inl (E.2 1, 12, .inl (upd Bo n dn)))] := hD.sub [0, 1, 2] (by decide) rfl
  exact W.iret (v := nI ((n + 1) - 1)) hx hb hr (fun t9 ht9 hW9 => ⟨⟨nI ((n + 1) - 1), (), rfl, rfl, ⟨by rw [ht9]; exact hP9, hD9⟩⟩, hS.F ht9⟩) hS.2.2 dX1_add_72
set_option maxHeartbeats 1000000 in
set_option maxRecDepth 100000 in
theorem c_X1_allBits (l : Launch) (E : EnvT) (h0 : Nat) (a1 : Nat) (a2 : Nat) (n : Nat) (th : Nat) (To : Nat → Int32) (Bo : Nat → Int32) (hn : n ≤ 12) : Met l yX1_allBits wsX1_allBits ({ frames := 0, cells := 0, slots := 0, locals := 0 }) (va_Pc [.ref h0] (PR E [(h0, .inr (1, [.ref a1, .ref a2, .int (nI n), .int (nI th)])), (a1, .inl (E.2 1, 12, .inl To)), (a2, .inl (E.2 1, 12, .inl Bo))])) (vp_Si (fun r => r = nI (2 ^ n - 1))) 0 0 (fun _ => False) := by
  refine Met.ofW (cc := cX1_allBits) (maxL := 1) (ret := (some .int)) (by decide +kernel) rfl ?_
  intro p e s m args below meth c s₁ B hml hv
  obtain ⟨rfl, hP, hE⟩ := hv
  have hx := B.exec
  have hb := B.bytes
  have hr := B.returns
  have hts := atoms_spec (ws := wsX1_allBits) B.pre
  have hown : s.vm.findClass RX1 = some m.cls := findClass_of_methodNamed B.named
  have hlocks := B.notSynchronized
  have hK := hE.1
  have hNN := hE.2.1
  have hinX1 : ∀ w ∈ wsX10, w ∈ wsX1_allBits := fun w h => List.mem_cons_of_mem _ (List.mem_append_right _ h)
  have hl := lv_entry ([.ref h0]) (n := 1) (Nat.le_of_ble_eq_true rfl)
  rw [lg_entry_eq]
  generalize (lg_sl ([.ref h0]) ++ List.replicate (1 - (lg_sl ([.ref h0])).length) Slot.unset).toArray = ls at hl ⊢
  have hl : lv_has ls 1 [(0, .ref h0)] := hl
  refine lv_iconst (v := 1) hx hb dX1_allBits_0 (by decide) ?_
  refine lv_aload_n hx hb dX1_allBits_1 rfl (lv_at hl 0 rfl) ?_
  refine va_get (D := E.1) (ci := 1) (v := .int (nI n)) (C := RX1) (T := TX1) (N := 4) hx hb hts hinX1 hown hK hP 0 rfl rfl 2 (by decide) (hts (.fieldLink RX1 26 "WornRings$Lines" "count" "I") (by decide +kernel)) (fun _ h9 => h9) rfl dX1_allBits_2 ?_
  refine lv_ishl hx hb dX1_allBits_5 ?_
  rw [show (1 <<< ((nI n) &&& 31) : Int32) = nI (2 ^ n) from shl1 n (by omega)]
  refine lv_iconst (v := 1) hx hb dX1_allBits_6 (by decide) ?_
  refine lv_isub hx hb dX1_allBits_7 ?_
  exact W.iret (v := (nI (2 ^ n)) - 1) hx hb hr (fun t9 ht9 hW9 => ⟨(nI (2 ^ n)) - 1, rfl, pk_sub (b := 1) (Nat.one_le_two_pow), ht9⟩) (fun _ h => absurd h List.not_mem_nil) dX1_allBits_8
set_option maxHeartbeats 1000000 in
set_option maxRecDepth 100000 in
theorem c_X1_near (l : Launch) (E : EnvT) (h0 : Nat) (a1 : Nat) (a2 : Nat) (n : Nat) (th : Nat) (To : Nat → Int32) (Bo : Nat → Int32) (ta : Int64) (tb : Int64) (hn : n ≤ 12) (hth : th ≤ 100) : Met l yX1_near wsX1_near ({ frames := 1, cells := 0, slots := 0, locals := 21 }) (va_Pc [.ref h0, .long ta, .long tb] (PR E [(h0, .inr (1, [.ref a1, .ref a2, .int (nI n), .int (nI th)])), (a1, .inl (E.2 1, 12, .inl To)), (a2, .inl (E.2 1, 12, .inl Bo))])) (vp_Si (fun r => r = nI (nearN To Bo th ta tb n))) 0 0 (fun _ => False) := by
  refine Met.ofW (cc := cX1_near) (maxL := 11) (ret := (some .int)) (by decide +kernel) rfl ?_
  intro p e s m args below meth c s₁ B hml hv
  obtain ⟨rfl, hP, hE⟩ := hv
  have hx := B.exec
  have hb := B.bytes
  have hr := B.returns
  have hts := atoms_spec (ws := wsX1_near) B.pre
  have hown : s.vm.findClass RX1 = some m.cls := findClass_of_methodNamed B.named
  have hlocks := B.notSynchronized
  have hK := hE.1
  have hNN := hE.2.1
  have hinX1 : ∀ w ∈ wsX10, w ∈ wsX1_near := fun w h => List.mem_cons_of_mem _ (List.mem_append_right _ h)
  have hl := lv_entry ([.ref h0, .long ta, .long tb]) (n := 11) (Nat.le_of_ble_eq_true rfl)
  rw [lg_entry_eq]
  generalize (lg_sl ([.ref h0, .long ta, .long tb]) ++ List.replicate (11 - (lg_sl ([.ref h0, .long ta, .long tb])).length) Slot.unset).toArray = ls at hl ⊢
  have hl : lv_has ls 11 [(0, .ref h0), (1, .long ta), (3, .long tb)] := hl
  refine lv_iconst (v := 0) hx hb dX1_near_0 (by decide) ?_
  refine lv_istore (lv' := [(5, .int 0), (0, .ref h0), (1, .long ta), (3, .long tb)]) hx hb dX1_near_1 hl (by decide) rfl (fun ls hl => ?_)
  refine lv_iconst (v := 0) hx hb dX1_near_3 (by decide) ?_
  refine lv_istore (lv' := [(6, .int 0), (5, .int 0), (0, .ref h0), (1, .long ta), (3, .long tb)]) hx hb dX1_near_4 hl (by decide) rfl (fun ls hl => ?_)
  refine (fun (lp6 : ∀ (n9 : Nat) (i : Nat) (ls : Array Slot), (n - i) < n9 → (i ≤ n) → lv_has ls 11 [(0, .ref h0), (1, .long ta), (3, .long tb), (5, .int (nI (nearN To Bo th ta tb i))), (6, .int (nI i))] → W p l e _ s m _ below meth c s.heap [] _ _ _ (F0 m 6 ls [])) => lp6 (n + 1) 0 _ (by omega) (by omega) (lv_sub hl [2, 3, 4, 1, 0] rfl)) ?_
  intro n6
  induction n6 with
  | zero => intro i ls h0; exact absurd (by assumption) (Nat.not_lt_zero _)
  | succ n6 ih6 =>
    intro i ls hmu6 hi hl
    have hb9 := nearN_lt To Bo th ta tb i
    refine lv_iload hx hb dX1_near_6 (lv_at hl 4 rfl) ?_
    refine lv_aload_n hx hb dX1_near_8 rfl (lv_at hl 0 rfl) ?_
    refine va_get (D := E.1) (ci := 1) (v := .int (nI n)) (C := RX1) (T := TX1) (N := 4) hx hb hts hinX1 hown hK hP 0 rfl rfl 2 (by decide) (hts (.fieldLink RX1 26 "WornRings$Lines" "count" "I") (by decide +kernel)) (fun _ h9 => h9) rfl dX1_near_9 ?_
    refine lv_icmp_ge (tgt := 78) hx hb dX1_near_12 (by decide) (fun c_12 => ?_) (fun c_12 => ?_)
    · have c_12 : n ≤ i := (nI_leI (a := n) (b := i) (by omega) (by omega)).mp c_12
      refine lv_iload hx hb dX1_near_78 (lv_at hl 3 rfl) ?_
      exact W.iret (v := nI (nearN To Bo th ta tb i)) hx hb hr (fun t9 ht9 hW9 => ⟨nI (nearN To Bo th ta tb i), rfl, by rw [show i = n by omega], ht9⟩) (fun _ h => absurd h List.not_mem_nil) dX1_near_80
    · have c_12 : ¬ n ≤ i := fun h9 => c_12 ((nI_leI (a := n) (b := i) (by omega) (by omega)).mpr h9)
      refine lv_lload_n hx hb dX1_near_15 rfl (lv_at hl 1 rfl) ?_
      refine lv_aload_n hx hb dX1_near_16 rfl (lv_at hl 0 rfl) ?_
      refine va_get (D := E.1) (ci := 1) (v := .ref a2) (C := RX1) (T := TX1) (N := 4) hx hb hts hinX1 hown hK hP 0 rfl rfl 1 (by decide) (hts (.fieldLink RX1 15 "WornRings$Lines" "below" "[I") (by decide +kernel)) (fun _ h9 => h9) rfl dX1_near_17 ?_
      refine lv_iload hx hb dX1_near_20 (lv_at hl 4 rfl) ?_
      refine va_iald hx hb hK hP 2 1 rfl rfl (vp_in_nI (by omega) (by omega)) dX1_near_22 ?_
      rw [nI_clamp (n := i) (by omega)]
      refine lv_i2l (v := (Bo i).toInt64) hx hb dX1_near_23 (rfl) ?_
      refine lv_lmul hx hb dX1_near_24 ?_
      refine lv_lstore (lv' := [(7, .long (ta * ((Bo i).toInt64))), (0, .ref h0), (1, .long ta), (3, .long tb), (5, .int (nI (nearN To Bo th ta tb i))), (6, .int (nI i))]) hx hb dX1_near_25 hl (by decide) rfl (fun ls hl => ?_)
      refine lv_aload_n hx hb dX1_near_27 rfl (lv_at hl 1 rfl) ?_
      refine va_get (D := E.1) (ci := 1) (v := .ref a1) (C := RX1) (T := TX1) (N := 4) hx hb hts hinX1 hown hK hP 0 rfl rfl 0 (by decide) (hts (.fieldLink RX1 9 "WornRings$Lines" "above" "[I") (by decide +kernel)) (fun _ h9 => h9) rfl dX1_near_28 ?_
      refine lv_iload hx hb dX1_near_31 (lv_at hl 5 rfl) ?_
      refine va_iald hx hb hK hP 1 1 rfl rfl (vp_in_nI (by omega) (by omega)) dX1_near_33 ?_
      rw [nI_clamp (n := i) (by omega)]
      refine lv_i2l (v := (To i).toInt64) hx hb dX1_near_34 (rfl) ?_
      refine lv_lload_n hx hb dX1_near_35 rfl (lv_at hl 3 rfl) ?_
      refine lv_lmul hx hb dX1_near_36 ?_
      refine lv_lload hx hb dX1_near_37 (lv_at hl 0 rfl) ?_
      refine lv_lsub hx hb dX1_near_39 ?_
      refine va_mabs_long hx hb (by rw [hml]; exact hl.1.symm) hown (hts (.methodLink RX1 41 Lib.MathLoose.abs_long.x) (by decide +kernel)) (hts (.static Lib.MathLoose.abs_long.x) (by decide +kernel)) (hts (.initialized "java/lang/Math") (by decide +kernel)) (hts (.code Lib.MathLoose.abs_long.x Lib.MathLoose.abs_long.code 2 (some .long)) (by decide +kernel)) (Nat.le_of_ble_eq_true rfl) (Nat.le_of_ble_eq_true rfl) (Nat.zero_le _) (Nat.zero_le _) dX1_near_40 ?_
      refine lv_lstore (lv' := [(9, .long (if 0 < ((((To i).toInt64) * tb) - (ta * ((Bo i).toInt64))) then ((((To i).toInt64) * tb) - (ta * ((Bo i).toInt64))) else -((((To i).toInt64) * tb) - (ta * ((Bo i).toInt64))))), (7, .long (ta * ((Bo i).toInt64))), (0, .ref h0), (1, .long ta), (3, .long tb), (5, .int (nI (nearN To Bo th ta tb i))), (6, .int (nI i))]) hx hb dX1_near_43 hl (by decide) rfl (fun ls hl => ?_)
      refine lv_lload hx hb dX1_near_45 (lv_at hl 0 rfl) ?_
      refine lv_ldc2 (v := 1000) hx hb hown (hts (.constantLong RX1 47 (1000)) (by decide +kernel)) dX1_near_47 ?_
      refine lv_lmul hx hb dX1_near_50 ?_
      refine lv_aload_n hx hb dX1_near_51 rfl (lv_at hl 2 rfl) ?_
      refine va_get (D := E.1) (ci := 1) (v := .int (nI th)) (C := RX1) (T := TX1) (N := 4) hx hb hts hinX1 hown hK hP 0 rfl rfl 3 (by decide) (hts (.fieldLink RX1 18 "WornRings$Lines" "thousandths" "I") (by decide +kernel)) (fun _ h9 => h9) rfl dX1_near_52 ?_
      refine lv_i2l (v := lN th) hx hb dX1_near_55 (nI_l (by omega)) ?_
      refine lv_lload hx hb dX1_near_56 (lv_at hl 1 rfl) ?_
      refine lv_lmul hx hb dX1_near_58 ?_
      refine W.lcmp hx hb dX1_near_59 ?_
      refine lv_if_gt (tgt := 72) hx hb dX1_near_60 (by decide) (fun c_60 => ?_) (fun c_60 => ?_)
      · have c_60 := lc_gt c_60
        refine lv_iinc (v := nI (i + 1)) (lv' := [(6, .int (nI (i + 1))), (9, .long (if 0 < ((((To i).toInt64) * tb) - (ta * ((Bo i).toInt64))) then ((((To i).toInt64) * tb) - (ta * ((Bo i).toInt64))) else -((((To i).toInt64) * tb) - (ta * ((Bo i).toInt64))))), (7, .long (ta * ((Bo i).toInt64))), (0, .ref h0), (1, .long ta), (3, .long tb), (5, .int (nI (nearN To Bo th ta tb i)))]) hx hb dX1_near_72 hl (k := 6) rfl (nI_add i 1) (by decide) rfl (fun ls hl => ?_)
        refine lv_goto (tgt := 6) hx hb dX1_near_75 (by decide) ?_
        have e9_0 : nearN To Bo th ta tb (i + 1) = nearN To Bo th ta tb i := by first | exact nearN_t c_60 | exact nearN_f c_60
        exact ih6 (i + 1) _ (by omega) (by omega) (by rw [e9_0]; exact lv_sub hl [3, 4, 5, 6, 0] rfl)
      · have c_60 := lc_gt_n c_60
        refine lv_iload hx hb dX1_near_63 (lv_at hl 5 rfl) ?_
        refine lv_iconst (v := 1) hx hb dX1_near_65 (by decide) ?_
        refine lv_iload hx hb dX1_near_66 (lv_at hl 6 rfl) ?_
        refine lv_ishl hx hb dX1_near_68 ?_
        rw [show (1 <<< ((nI i) &&& 31) : Int32) = nI (2 ^ i) from shl1 i (by omega)]
        refine lv_ior hx hb dX1_near_69 ?_
        rw [show ((nI (nearN To Bo th ta tb i)) ||| (nI (2 ^ i)) : Int32) = nI (nearN To Bo th ta tb i + 2 ^ i) from or_bit hb9]
        refine lv_istore (lv' := [(5, .int (nI (nearN To Bo th ta tb i + 2 ^ i))), (9, .long (if 0 < ((((To i).toInt64) * tb) - (ta * ((Bo i).toInt64))) then ((((To i).toInt64) * tb) - (ta * ((Bo i).toInt64))) else -((((To i).toInt64) * tb) - (ta * ((Bo i).toInt64))))), (7, .long (ta * ((Bo i).toInt64))), (0, .ref h0), (1, .long ta), (3, .long tb), (6, .int (nI i))]) hx hb dX1_near_70 hl (by decide) rfl (fun ls hl => ?_)
        refine lv_iinc (v := nI (i + 1)) (lv' := [(6, .int (nI (i + 1))), (5, .int (nI (nearN To Bo th ta tb i + 2 ^ i))), (9, .long (if 0 < ((((To i).toInt64) * tb) - (ta * ((Bo i).toInt64))) then ((((To i).toInt64) * tb) - (ta * ((Bo i).toInt64))) else -((((To i).toInt64) * tb) - (ta * ((Bo i).toInt64))))), (7, .long (ta * ((Bo i).toInt64))), (0, .ref h0), (1, .long ta), (3, .long tb)]) hx hb dX1_near_72 hl (k := 6) rfl (nI_add i 1) (by decide) rfl (fun ls hl => ?_)
        refine lv_goto (tgt := 6) hx hb dX1_near_75 (by decide) ?_
        have e9_0 : nearN To Bo th ta tb (i + 1) = nearN To Bo th ta tb i + 2 ^ i := by first | exact nearN_t c_60 | exact nearN_f c_60
        exact ih6 (i + 1) _ (by omega) (by omega) (by rw [e9_0]; exact lv_sub hl [4, 5, 6, 1, 0] rfl)
set_option maxHeartbeats 1000000 in
set_option maxRecDepth 100000 in
theorem c_X1_explainedBy (l : Launch) (E : EnvT) (h0 : Nat) (a1 : Nat) (a2 : Nat) (n : Nat) (th : Nat) (To : Nat → Int32) (Bo : Nat → Int32) (h1 : Nat) (kd : Int32) (se : Int32) (ua : Nat) (da : Nat) (pn : Nat) (fa : Nat → Int64) (fb : Nat → Int64) (hn : n ≤ 12) (hth : th ≤ 100) (hpn : pn ≤ 3) : Met l yX1_explainedBy wsX1_explainedBy ({ frames := 2, cells := 0, slots := 0, locals := 51 }) (va_Pc [.ref h0, .ref h1] (PR E [(h0, .inr (1, [.ref a1, .ref a2, .int (nI n), .int (nI th)])), (a1, .inl (E.2 1, 12, .inl To)), (a2, .inl (E.2 1, 12, .inl Bo)), (h1, .inr (6, [.int kd, .int se, .ref ua, .ref da, .int (nI pn)])), (ua, .inl (E.2 2, 3, .inr (.inl fa))), (da, .inl (E.2 2, 3, .inr (.inl fb)))])) (vp_Si (fun r => r = nI (expN To Bo th n fa fb pn))) 0 0 (fun _ => False) := by
  refine Met.ofW (cc := cX1_explainedBy) (maxL := 4) (ret := (some .int)) (by decide +kernel) rfl ?_
  intro p e s m args below meth c s₁ B hml hv
  obtain ⟨rfl, hP, hE⟩ := hv
  have hx := B.exec
  have hb := B.bytes
  have hr := B.returns
  have hts := atoms_spec (ws := wsX1_explainedBy) B.pre
  have hown : s.vm.findClass RX1 = some m.cls := findClass_of_methodNamed B.named
  have hlocks := B.notSynchronized
  have hK := hE.1
  have hNN := hE.2.1
  have hinX6 : ∀ w ∈ wsX60, w ∈ wsX1_explainedBy := fun w h => List.mem_cons_of_mem _ (List.mem_append_left _ (List.mem_append_right _ h))
  have hl := lv_entry ([.ref h0, .ref h1]) (n := 4) (Nat.le_of_ble_eq_true rfl)
  rw [lg_entry_eq]
  generalize (lg_sl ([.ref h0, .ref h1]) ++ List.replicate (4 - (lg_sl ([.ref h0, .ref h1])).length) Slot.unset).toArray = ls at hl ⊢
  have hl : lv_has ls 4 [(0, .ref h0), (1, .ref h1)] := hl
  refine lv_iconst (v := 0) hx hb dX1_explainedBy_0 (by decide) ?_
  refine lv_istore_n (lv' := [(2, .int 0), (0, .ref h0), (1, .ref h1)]) hx hb dX1_explainedBy_1 rfl hl (by decide) rfl (fun ls hl => ?_)
  refine lv_iconst (v := 0) hx hb dX1_explainedBy_2 (by decide) ?_
  refine lv_istore_n (lv' := [(3, .int 0), (2, .int 0), (0, .ref h0), (1, .ref h1)]) hx hb dX1_explainedBy_3 rfl hl (by decide) rfl (fun ls hl => ?_)
  refine (fun (lp4 : ∀ (n9 : Nat) (i : Nat) (ls : Array Slot), (pn - i) < n9 → (i ≤ pn) → lv_has ls 4 [(0, .ref h0), (1, .ref h1), (2, .int (nI (expN To Bo th n fa fb i))), (3, .int (nI i))] → W p l e _ s m _ below meth c s.heap [] _ _ _ (F0 m 4 ls [])) => lp4 (pn + 1) 0 _ (by omega) (by omega) (lv_sub hl [2, 3, 1, 0] rfl)) ?_
  intro n4
  induction n4 with
  | zero => intro i ls h0; exact absurd (by assumption) (Nat.not_lt_zero _)
  | succ n4 ih4 =>
    intro i ls hmu4 hi hl
    refine lv_iload_n hx hb dX1_explainedBy_4 rfl (lv_at hl 3 rfl) ?_
    refine lv_aload_n hx hb dX1_explainedBy_5 rfl (lv_at hl 1 rfl) ?_
    refine va_getN (D := E.1) (host := "WornRings") (ref := "WornRings$Part") (ci := 6) (v := .int (nI pn)) (C := RX6) (T := TX6) (N := 5) hx hb hts hinX6 hown hK hP 3 rfl rfl 4 (by decide) (va_Nw.use rfl (hNN (.fieldLinkNest RX1 29 "WornRings$Part" "count" "I" "WornRings") (by decide +kernel))) (fun _ h9 => h9) rfl dX1_explainedBy_6 ?_
    refine lv_icmp_ge (tgt := 37) hx hb dX1_explainedBy_9 (by decide) (fun c_9 => ?_) (fun c_9 => ?_)
    · have c_9 : pn ≤ i := (nI_leI (a := pn) (b := i) (by omega) (by omega)).mp c_9
      refine lv_iload_n hx hb dX1_explainedBy_37 rfl (lv_at hl 2 rfl) ?_
      exact W.iret (v := nI (expN To Bo th n fa fb i)) hx hb hr (fun t9 ht9 hW9 => ⟨nI (expN To Bo th n fa fb i), rfl, by rw [show i = pn by omega], ht9⟩) (fun _ h => absurd h List.not_mem_nil) dX1_explainedBy_38
    · have c_9 : ¬ pn ≤ i := fun h9 => c_9 ((nI_leI (a := pn) (b := i) (by omega) (by omega)).mpr h9)
      refine lv_iload_n hx hb dX1_explainedBy_12 rfl (lv_at hl 2 rfl) ?_
      refine lv_aload_n hx hb dX1_explainedBy_13 rfl (lv_at hl 0 rfl) ?_
      refine lv_aload_n hx hb dX1_explainedBy_14 rfl (lv_at hl 1 rfl) ?_
      refine va_getN (D := E.1) (host := "WornRings") (ref := "WornRings$Part") (ci := 6) (v := .ref ua) (C := RX6) (T := TX6) (N := 5) hx hb hts hinX6 hown hK hP 3 rfl rfl 2 (by decide) (va_Nw.use rfl (hNN (.fieldLinkNest RX1 32 "WornRings$Part" "above" "[J" "WornRings") (by decide +kernel))) (fun _ h9 => h9) rfl dX1_explainedBy_15 ?_
      refine lv_iload_n hx hb dX1_explainedBy_18 rfl (lv_at hl 3 rfl) ?_
      refine va_lald hx hb hK hP 4 2 rfl rfl (vp_in_nI (by omega) (by omega)) dX1_explainedBy_19 ?_
      rw [nI_clamp (n := i) (by omega)]
      refine lv_aload_n hx hb dX1_explainedBy_20 rfl (lv_at hl 1 rfl) ?_
      refine va_getN (D := E.1) (host := "WornRings") (ref := "WornRings$Part") (ci := 6) (v := .ref da) (C := RX6) (T := TX6) (N := 5) hx hb hts hinX6 hown hK hP 3 rfl rfl 3 (by decide) (va_Nw.use rfl (hNN (.fieldLinkNest RX1 35 "WornRings$Part" "below" "[J" "WornRings") (by decide +kernel))) (fun _ h9 => h9) rfl dX1_explainedBy_21 ?_
      refine lv_iload_n hx hb dX1_explainedBy_24 rfl (lv_at hl 3 rfl) ?_
      refine va_lald hx hb hK hP 5 2 rfl rfl (vp_in_nI (by omega) (by omega)) dX1_explainedBy_25 ?_
      rw [nI_clamp (n := i) (by omega)]
      refine rVi hE ⟨hx, hb, hml, hown, hts⟩ (c_X1_near l E h0 a1 a2 n th To Bo (fa i) (fb i) (by first | assumption | omega) (by first | assumption | omega)) (cwV 2 hts gX1_explainedBy_X1_near rfl rfl rfl (by decide +kernel) ⟨Nat.le_of_ble_eq_true rfl, Nat.le_of_ble_eq_true rfl⟩) (hP.sub [0, 1, 2] rfl) 0 1 rfl rfl rfl hl.1 rfl (Nat.le_of_ble_eq_true rfl) dX1_explainedBy_26 ⟨(Nat.zero_le _), (Nat.zero_le _)⟩ ?_
      refine lv_ior hx hb dX1_explainedBy_29 ?_
      rw [show ((nI (expN To Bo th n fa fb i)) ||| (nI (nearN To Bo th (fa i) (fb i) n)) : Int32) = nI (expN To Bo th n fa fb (i + 1)) from xx_or _ _]
      refine lv_istore_n (lv' := [(2, .int (nI (expN To Bo th n fa fb (i + 1)))), (0, .ref h0), (1, .ref h1), (3, .int (nI i))]) hx hb dX1_explainedBy_30 rfl hl (by decide) rfl (fun ls hl => ?_)
      refine lv_iinc (v := nI (i + 1)) (lv' := [(3, .int (nI (i + 1))), (2, .int (nI (expN To Bo th n fa fb (i + 1)))), (0, .ref h0), (1, .ref h1)]) hx hb dX1_explainedBy_31 hl (k := 3) rfl (nI_add i 1) (by decide) rfl (fun ls hl => ?_)
      refine lv_goto (tgt := 4) hx hb dX1_explainedBy_34 (by decide) ?_
      exact ih4 (i + 1) _ (by omega) (by omega) (lv_sub hl [2, 3, 1, 0] rfl)
set_option maxHeartbeats 1000000 in
set_option maxRecDepth 100000 in
theorem c_X1_allTonesSeen (l : Launch) (E : EnvT) (h0 : Nat) (a1 : Nat) (a2 : Nat) (n : Nat) (th : Nat) (To : Nat → Int32) (Bo : Nat → Int32) (h1 : Nat) (kd : Int32) (se : Int32) (ua : Nat) (da : Nat) (pn : Nat) (fa : Nat → Int64) (fb : Nat → Int64) (hn : n ≤ 12) (hth : th ≤ 100) (hpn : pn ≤ 3) : Met l yX1_allTonesSeen wsX1_allTonesSeen ({ frames := 2, cells := 0, slots := 0, locals := 51 }) (va_Pc [.ref h0, .ref h1] (PR E [(h0, .inr (1, [.ref a1, .ref a2, .int (nI n), .int (nI th)])), (a1, .inl (E.2 1, 12, .inl To)), (a2, .inl (E.2 1, 12, .inl Bo)), (h1, .inr (6, [.int kd, .int se, .ref ua, .ref da, .int (nI pn)])), (ua, .inl (E.2 2, 3, .inr (.inl fa))), (da, .inl (E.2 2, 3, .inr (.inl fb)))])) (vp_Si (fun r => r = if allS To Bo th n fa fb pn = true then 1 else 0)) 0 0 (fun _ => False) := by
  refine Met.ofW (cc := cX1_allTonesSeen) (maxL := 3) (ret := (some .boolean)) (by decide +kernel) rfl ?_
  intro p e s m args below meth c s₁ B hml hv
  obtain ⟨rfl, hP, hE⟩ := hv
  have hx := B.exec
  have hb := B.bytes
  have hr := B.returns
  have hts := atoms_spec (ws := wsX1_allTonesSeen) B.pre
  have hown : s.vm.findClass RX1 = some m.cls := findClass_of_methodNamed B.named
  have hlocks := B.notSynchronized
  have hK := hE.1
  have hNN := hE.2.1
  have hinX6 : ∀ w ∈ wsX60, w ∈ wsX1_allTonesSeen := fun w h => List.mem_cons_of_mem _ (List.mem_append_left _ (List.mem_append_right _ h))
  have hl := lv_entry ([.ref h0, .ref h1]) (n := 3) (Nat.le_of_ble_eq_true rfl)
  rw [lg_entry_eq]
  generalize (lg_sl ([.ref h0, .ref h1]) ++ List.replicate (3 - (lg_sl ([.ref h0, .ref h1])).length) Slot.unset).toArray = ls at hl ⊢
  have hl : lv_has ls 3 [(0, .ref h0), (1, .ref h1)] := hl
  refine lv_iconst (v := 0) hx hb dX1_allTonesSeen_0 (by decide) ?_
  refine lv_istore_n (lv' := [(2, .int 0), (0, .ref h0), (1, .ref h1)]) hx hb dX1_allTonesSeen_1 rfl hl (by decide) rfl (fun ls hl => ?_)
  refine (fun (lp2 : ∀ (n9 : Nat) (i : Nat) (ls : Array Slot), (pn - i) < n9 → (i ≤ pn) → (allS To Bo th n fa fb i = true) → lv_has ls 3 [(0, .ref h0), (1, .ref h1), (2, .int (nI i))] → W p l e _ s m _ below meth c s.heap [] _ _ _ (F0 m 2 ls [])) => lp2 (pn + 1) 0 _ (by omega) (by omega) (rfl) (lv_sub hl [1, 2, 0] rfl)) ?_
  intro n2
  induction n2 with
  | zero => intro i ls h0; exact absurd (by assumption) (Nat.not_lt_zero _)
  | succ n2 ih2 =>
    intro i ls hmu2 hi hm hl
    have hb9 := nearN_lt2 To Bo th (fa i) (fb i) hn
    refine lv_iload_n hx hb dX1_allTonesSeen_2 rfl (lv_at hl 2 rfl) ?_
    refine lv_aload_n hx hb dX1_allTonesSeen_3 rfl (lv_at hl 1 rfl) ?_
    refine va_getN (D := E.1) (host := "WornRings") (ref := "WornRings$Part") (ci := 6) (v := .int (nI pn)) (C := RX6) (T := TX6) (N := 5) hx hb hts hinX6 hown hK hP 3 rfl rfl 4 (by decide) (va_Nw.use rfl (hNN (.fieldLinkNest RX1 29 "WornRings$Part" "count" "I" "WornRings") (by decide +kernel))) (fun _ h9 => h9) rfl dX1_allTonesSeen_4 ?_
    refine lv_icmp_ge (tgt := 37) hx hb dX1_allTonesSeen_7 (by decide) (fun c_7 => ?_) (fun c_7 => ?_)
    · have c_7 : pn ≤ i := (nI_leI (a := pn) (b := i) (by omega) (by omega)).mp c_7
      refine lv_iconst (v := 1) hx hb dX1_allTonesSeen_37 (by decide) ?_
      exact W.zret (v := 1) hx hb hr (rfl) (fun t9 ht9 hW9 => ⟨1, rfl, by rw [show pn = i by omega, hm]; rfl, ht9⟩) (fun _ h => absurd h List.not_mem_nil) dX1_allTonesSeen_38
    · have c_7 : ¬ pn ≤ i := fun h9 => c_7 ((nI_leI (a := pn) (b := i) (by omega) (by omega)).mpr h9)
      refine lv_aload_n hx hb dX1_allTonesSeen_10 rfl (lv_at hl 0 rfl) ?_
      refine lv_aload_n hx hb dX1_allTonesSeen_11 rfl (lv_at hl 1 rfl) ?_
      refine va_getN (D := E.1) (host := "WornRings") (ref := "WornRings$Part") (ci := 6) (v := .ref ua) (C := RX6) (T := TX6) (N := 5) hx hb hts hinX6 hown hK hP 3 rfl rfl 2 (by decide) (va_Nw.use rfl (hNN (.fieldLinkNest RX1 32 "WornRings$Part" "above" "[J" "WornRings") (by decide +kernel))) (fun _ h9 => h9) rfl dX1_allTonesSeen_12 ?_
      refine lv_iload_n hx hb dX1_allTonesSeen_15 rfl (lv_at hl 2 rfl) ?_
      refine va_lald hx hb hK hP 4 2 rfl rfl (vp_in_nI (by omega) (by omega)) dX1_allTonesSeen_16 ?_
      rw [nI_clamp (n := i) (by omega)]
      refine lv_aload_n hx hb dX1_allTonesSeen_17 rfl (lv_at hl 1 rfl) ?_
      refine va_getN (D := E.1) (host := "WornRings") (ref := "WornRings$Part") (ci := 6) (v := .ref da) (C := RX6) (T := TX6) (N := 5) hx hb hts hinX6 hown hK hP 3 rfl rfl 3 (by decide) (va_Nw.use rfl (hNN (.fieldLinkNest RX1 35 "WornRings$Part" "below" "[J" "WornRings") (by decide +kernel))) (fun _ h9 => h9) rfl dX1_allTonesSeen_18 ?_
      refine lv_iload_n hx hb dX1_allTonesSeen_21 rfl (lv_at hl 2 rfl) ?_
      refine va_lald hx hb hK hP 5 2 rfl rfl (vp_in_nI (by omega) (by omega)) dX1_allTonesSeen_22 ?_
      rw [nI_clamp (n := i) (by omega)]
      refine rVi hE ⟨hx, hb, hml, hown, hts⟩ (c_X1_near l E h0 a1 a2 n th To Bo (fa i) (fb i) (by first | assumption | omega) (by first | assumption | omega)) (cwV 2 hts gX1_allTonesSeen_X1_near rfl rfl rfl (by decide +kernel) ⟨Nat.le_of_ble_eq_true rfl, Nat.le_of_ble_eq_true rfl⟩) (hP.sub [0, 1, 2] rfl) 0 1 rfl rfl rfl hl.1 rfl (Nat.le_of_ble_eq_true rfl) dX1_allTonesSeen_23 ⟨(Nat.zero_le _), (Nat.zero_le _)⟩ ?_
      refine lv_if_ne (tgt := 31) hx hb dX1_allTonesSeen_26 (by decide) (fun c_26 => ?_) (fun c_26 => ?_)
      · have c_26 : ¬ (nearN To Bo th (fa i) (fb i) n) = 0 := fun h9 => c_26 ((nI_eq (a := nearN To Bo th (fa i) (fb i) n) (b := 0) (by omega) (by omega)).mpr h9)
        refine lv_iinc (v := nI (i + 1)) (lv' := [(2, .int (nI (i + 1))), (0, .ref h0), (1, .ref h1)]) hx hb dX1_allTonesSeen_31 hl (k := 2) rfl (nI_add i 1) (by decide) rfl (fun ls hl => ?_)
        refine lv_goto (tgt := 2) hx hb dX1_allTonesSeen_34 (by decide) ?_
        exact ih2 (i + 1) _ (by omega) (by omega) (by rw [allS, hm, decide_eq_true c_26]; rfl) (lv_sub hl [1, 2, 0] rfl)
      · have c_26 : (nearN To Bo th (fa i) (fb i) n) = 0 := (nI_eq (a := nearN To Bo th (fa i) (fb i) n) (b := 0) (by omega) (by omega)).mp c_26
        refine lv_iconst (v := 0) hx hb dX1_allTonesSeen_29 (by decide) ?_
        exact W.zret (v := 0) hx hb hr (rfl) (fun t9 ht9 hW9 => ⟨0, rfl, by
        have h9 : allS To Bo th n fa fb (i + 1) = false := by rw [allS, hm, decide_eq_false (fun h8 => h8 c_26)]; rfl
        have h7 := allS_no h9 (pn - (i + 1))
        rw [show i + 1 + (pn - (i + 1)) = pn by omega] at h7
        rw [h7]; rfl, ht9⟩) (fun _ h => absurd h List.not_mem_nil) dX1_allTonesSeen_30
