/-! Marks -/
def RLs (M : Nat → Nat) (L : List Nat) : Prop := ∀ j, j < L.length → M j = L.getD j 0
theorem RLs_push {M : Nat → Nat} {L : List Nat} {x : Nat} (h : RLs M L) : RLs (updN M L.length x) (L ++ [x]) := by
  intro j hj
  rw [List.length_append] at hj
  simp only [List.length_cons, List.length_nil] at hj
  by_cases e : j = L.length
  · subst e; simp [updN, List.getD]
  · have h2 : j < L.length := by omega
    simp only [updN, e, if_false]
    rw [h j h2]
    simp [List.getD, List.getElem?_append_left h2]
def kpL (L : List Nat) (x : Nat) : List Nat := if L.length < 120 then L ++ [x] else L
def flL (fr way mq : Nat) : Nat → Nat → List Nat → List Nat
  | 0, _, L => L
  | n + 1, i, L => if i < mq ∧ L.length < 120 then flL fr way mq n (i + 1) (kpL L (fr + way * i / mq)) else L
def frL (L : List Nat) : Nat := L.getD (L.length - 1) 0
def wyL (L : List Nat) : Nat := frL L - L.getD (L.length - 2) 0
def mqL (L : List Nat) (x : Nat) : Nat := (2 * (x - frL L) + wyL L) / (2 * wyL L)
def mdL (L : List Nat) (x : Nat) : List Nat := if L.length < 2 ∨ 120 ≤ L.length then L else if 2 * (x - frL L) ≤ 3 * wyL L then L else flL (frL L) (x - frL L) (mqL L x) (mqL L x) 1 L
def adL (L : List Nat) (x : Nat) : List Nat := kpL (mdL L x) x
theorem kpL_len (L : List Nat) (x : Nat) (h : L.length ≤ 120) : (kpL L x).length ≤ 120 := by
  unfold kpL; split
  · rw [List.length_append]; simp only [List.length_cons, List.length_nil]; omega
  · exact h
theorem flL_len (fr way mq : Nat) : ∀ (n i : Nat) (L : List Nat), L.length ≤ 120 → (flL fr way mq n i L).length ≤ 120
  | 0, _, _, h => h
  | n + 1, i, L, h => by
    unfold flL; split
    · exact flL_len fr way mq n (i + 1) _ (kpL_len _ _ h)
    · exact h
theorem mdL_len (L : List Nat) (x : Nat) (h : L.length ≤ 120) : (mdL L x).length ≤ 120 := by
  unfold mdL; split
  · exact h
  · split
    · exact h
    · exact flL_len _ _ _ _ _ _ h
theorem max2 {q : Nat} (h : 2 ≤ q) (hq : q < 2 ^ 31) : (if (2 : Int32) < nI q then nI q else (2 : Int32)) = nI q := by
  rcases Nat.lt_or_ge 2 q with h2 | h2
  · exact if_pos (nI_lt (a := 2) h2 hq)
  · have e : q = 2 := by omega
    subst e; rfl
def fHT (k n c : Nat) : Int32 := if 0 < c ∧ n + c + 1 ≤ k then 1 else 0
theorem fHT_0 {k n c : Nat} (h : fHT k n c = 0) : ¬ (0 < c ∧ n + c + 1 ≤ k) := by intro h2; simp [fHT, h2] at h
theorem fHT_1 {k n c : Nat} (h : ¬ fHT k n c = 0) : 0 < c ∧ n + c + 1 ≤ k := by
  rcases Classical.em (0 < c ∧ n + c + 1 ≤ k) with h2 | h2
  · exact h2
  · exact absurd (by simp [fHT, h2]) h
theorem ht_sub {k c : Nat} (hk : k ≤ 120) (hc : c ≤ 100) : (nI k - 1 - nI c).toInt = (k : Int) - 1 - c := by
  have h1 : (nI k - 1).toInt = (k : Int) - 1 := pk_sub_toInt (a := k) (b := 1) (by omega) (by omega)
  have h2 : (nI c).toInt = (c : Int) := nI_toInt (by omega)
  rw [Int32.toInt_sub, h1, h2]
  rw [Int.bmod_eq_of_le] <;> omega

set_option maxHeartbeats 1000000 in
set_option maxRecDepth 100000 in
theorem c_X4_init (l : Launch) (E : EnvT) (sz : Nat) (h0 : Nat)  : Met l yX4_init wsX4_init ({ frames := 1, cells := 1, slots := 120, locals := 20 }) (va_Pc [.ref h0] (PW E [(h0, .inr (4, [.null, .int 0, .int 0, .int 0]))] sz)) (va_Qv (fun (uu : Nat) => True) (fun (uu : Nat) t => BW E (va_A [(h0, .inr (4, [.null, .int 0, .int 0, .int 0]))] sz) [(h0, .inr (4, [.ref uu, .int 0, .int 0, .int 0])), (uu, .inl (E.2 1, 120, .inl (fun _ => 0)))] t) (va_A [(h0, .inr (4, [.null, .int 0, .int 0, .int 0]))] sz)) 1 120 (va_A [(h0, .inr (4, [.null, .int 0, .int 0, .int 0]))] sz) := by
  refine Met.ofW (cc := cX4_init) (maxL := 1) (ret := none) (by decide +kernel) rfl ?_
  intro p e s m args below meth c s₁ B hml hv
  obtain ⟨rfl, hsz, hP, hE, hD0⟩ := hv
  have hx := B.exec
  have hb := B.bytes
  have hr := B.returns
  have hts := atoms_spec (ws := wsX4_init) B.pre
  have hown : s.vm.findClass RX4 = some m.cls := findClass_of_methodNamed B.named
  have hlocks := B.notSynchronized
  have hK := hE.1
  have hNN := hE.2.1
  have hin : meth.name = "<init>" := (name_of_methodNamed B.named B.method).1
  have hinX4 : ∀ w ∈ wsX40, w ∈ wsX4_init := fun w h => List.mem_cons_of_mem _ (List.mem_append_right _ h)
  subst hsz
  have hD := hD0.self (sz := s.heap.size)
  generalize hAe : va_A [(h0, .inr (4, [.null, .int 0, .int 0, .int 0]))] s.heap.size = A at hD ⊢
  have hA : ∀ q : Nat, s.heap.size ≤ q → A q := fun q h => by rw [← hAe]; exact Or.inr h
  have hS : va_S A s.heap s.heap [] := va_S.rf
  have hl := lv_entry ([.ref h0]) (n := 1) (Nat.le_of_ble_eq_true rfl)
  rw [lg_entry_eq]
  generalize (lg_sl ([.ref h0]) ++ List.replicate (1 - (lg_sl ([.ref h0])).length) Slot.unset).toArray = ls at hl ⊢
  have hl : lv_has ls 1 [(0, .ref h0)] := hl
  refine lv_aload_n hx hb dX4_init_0 rfl (lv_at hl 0 rfl) ?_
  refine W.objInit hx hb hown (hts (.methodLink RX4 3 objectInit) (by decide +kernel)) (hts (.instanceMethod objectInit) (by decide +kernel)) (hts _ (List.mem_cons_of_mem _ (List.mem_append_left _ (List.mem_of_getElem? (i := 2) rfl)))) rfl (by rw [hml]; exact hl.1) rfl dX4_init_1 (Nat.le_of_ble_eq_true rfl) (Nat.le_of_ble_eq_true rfl) ?_
  refine W.eq (g2 := F0 m 4 ls []) rfl ?_
  refine lv_aload_n hx hb dX4_init_4 rfl (lv_at hl 0 rfl) ?_
  refine lv_bipush (v := 120) hx hb dX4_init_5 (by decide) ?_
  refine va_newa (atype := .int) (ty := .int) (N' := 120) (a0 := (120, .inl (fun _ => 0))) hx hb (hts (.arrayClass .int) (by decide +kernel)) rfl hK hP hD hS hA (newI _) (by decide) (by decide) (bytesI (Nat.le_of_ble_eq_true rfl)) (Nat.le_of_ble_eq_true rfl) (Nat.le_of_ble_eq_true rfl) dX4_init_7 (fun q7 cA H hK9 hP hD hS => ?_)
  obtain rfl : cA = E.2 1 := arrcl hK9 1 rfl rfl
  have hP : va_P E.1 vwCl [(h0, .inr (4, [.null, .int 0, .int 0, .int 0])), (q7, .inl (E.2 1, 120, .inl (fun _ => 0)))] H := hP
  have hD : va_D A [(h0, .inr (4, [.null, .int 0, .int 0, .int 0])), (q7, .inl (E.2 1, 120, .inl (fun _ => 0)))] := hD
  refine W.widen (k := 1) (n := 120) (by omega) (by omega) ?_
  refine va_putF (D := E.1) (ci := 4) (v := .ref q7) (ty := .array .int) (C := RX4) (T := TX4) (N := 4) hx hb hts hinX4 tyX4 tyX4_ok nmX4 hown hK hP hD hS 0 rfl rfl 0 (by decide) (hts (.fieldLink RX4 9 "WornRings$Marks" "mended" "[I") (by decide +kernel)) (fun _ h9 => h9) rfl hin rfl (by decide +kernel) (rfl) (rfl) (Nat.le_of_ble_eq_true rfl) dX4_init_9 (fun H locs hP hD hS => ?_)
  have hP : va_P E.1 vwCl [(h0, .inr (4, [.ref q7, .int 0, .int 0, .int 0])), (q7, .inl (E.2 1, 120, .inl (fun _ => 0)))] H := hP
  have hD : va_D A [(h0, .inr (4, [.ref q7, .int 0, .int 0, .int 0])), (q7, .inl (E.2 1, 120, .inl (fun _ => 0)))] := hD
  have hP9 : va_P E.1 vwCl [(h0, .inr (4, [.ref q7, .int 0, .int 0, .int 0])), (q7, .inl (E.2 1, 120, .inl (fun _ => 0)))] H := hP.sub [0, 1] rfl
  have hD9 : va_D A [(h0, .inr (4, [.ref q7, .int 0, .int 0, .int 0])), (q7, .inl (E.2 1, 120, .inl (fun _ => 0)))] := hD.sub [0, 1] (by decide) rfl
  exact W.vret hx hb hr (fun t9 ht9 hW9 => ⟨⟨(q7), rfl, trivial, ⟨by rw [ht9]; exact hP9, hD9⟩⟩, hS.F ht9⟩) hS.2.2 dX4_init_12
set_option maxHeartbeats 1000000 in
set_option maxRecDepth 100000 in
theorem c_X4_keep (l : Launch) (E : EnvT) (sz : Nat) (h0 : Nat) (a0 : Nat) (L : List Nat) (cn : Int32) (lt : Int32) (M : Nat → Nat) (x : Nat) (hR : RLs M L) (hL : L.length ≤ 120) : Met l yX4_keep wsX4_keep ({ frames := 0, cells := 0, slots := 0, locals := 0 }) (va_Pc [.ref h0, .int (nI x)] (PW E [(h0, .inr (4, [.ref a0, .int (nI L.length), .int cn, .int lt])), (a0, .inl (E.2 1, 120, .inl (nA M)))] sz)) (va_Qv (fun (uu : (Nat → Nat)) => RLs uu (kpL L x)) (fun (uu : (Nat → Nat)) t => BW E (va_A [(h0, .inr (4, [.ref a0, .int (nI L.length), .int cn, .int lt])), (a0, .inl (E.2 1, 120, .inl (nA M)))] sz) [(h0, .inr (4, [.ref a0, .int (nI (kpL L x).length), .int cn, .int lt])), (a0, .inl (E.2 1, 120, .inl (nA uu)))] t) (va_A [(h0, .inr (4, [.ref a0, .int (nI L.length), .int cn, .int lt])), (a0, .inl (E.2 1, 120, .inl (nA M)))] sz)) 0 0 (va_A [(h0, .inr (4, [.ref a0, .int (nI L.length), .int cn, .int lt])), (a0, .inl (E.2 1, 120, .inl (nA M)))] sz) := by
  refine Met.ofW (cc := cX4_keep) (maxL := 2) (ret := none) (by decide +kernel) rfl ?_
  intro p e s m args below meth c s₁ B hml hv
  obtain ⟨rfl, hsz, hP, hE, hD0⟩ := hv
  have hx := B.exec
  have hb := B.bytes
  have hr := B.returns
  have hts := atoms_spec (ws := wsX4_keep) B.pre
  have hown : s.vm.findClass RX4 = some m.cls := findClass_of_methodNamed B.named
  have hlocks := B.notSynchronized
  have hK := hE.1
  have hNN := hE.2.1
  have hinX4 : ∀ w ∈ wsX40, w ∈ wsX4_keep := fun w h => List.mem_cons_of_mem _ (List.mem_append_right _ h)
  subst hsz
  have hD := hD0.self (sz := s.heap.size)
  generalize hAe : va_A [(h0, .inr (4, [.ref a0, .int (nI L.length), .int cn, .int lt])), (a0, .inl (E.2 1, 120, .inl (nA M)))] s.heap.size = A at hD ⊢
  have hA : ∀ q : Nat, s.heap.size ≤ q → A q := fun q h => by rw [← hAe]; exact Or.inr h
  have hS : va_S A s.heap s.heap [] := va_S.rf
  have hl := lv_entry ([.ref h0, .int (nI x)]) (n := 2) (Nat.le_of_ble_eq_true rfl)
  rw [lg_entry_eq]
  generalize (lg_sl ([.ref h0, .int (nI x)]) ++ List.replicate (2 - (lg_sl ([.ref h0, .int (nI x)])).length) Slot.unset).toArray = ls at hl ⊢
  have hl : lv_has ls 2 [(0, .ref h0), (1, .int (nI x))] := hl
  refine lv_aload_n hx hb dX4_keep_0 rfl (lv_at hl 0 rfl) ?_
  refine va_get (D := E.1) (ci := 4) (v := .int (nI L.length)) (C := RX4) (T := TX4) (N := 4) hx hb hts hinX4 hown hK hP 0 rfl rfl 1 (by decide) (hts (.fieldLink RX4 34 "WornRings$Marks" "kept" "I") (by decide +kernel)) (fun _ h9 => h9) rfl dX4_keep_1 ?_
  refine lv_bipush (v := 120) hx hb dX4_keep_4 (by decide) ?_
  refine lv_icmp_ge (tgt := 29) hx hb dX4_keep_6 (by decide) (fun c_6 => ?_) (fun c_6 => ?_)
  · have c_6 : 120 ≤ L.length := (nI_leI (a := 120) (b := L.length) (by omega) (by omega)).mp c_6
    have e9 : ([(h0, .inr (4, [.ref a0, .int (nI (kpL L x).length), .int cn, .int lt])), (a0, .inl (E.2 1, 120, .inl (nA M)))] : va_W) = [(h0, .inr (4, [.ref a0, .int (nI L.length), .int cn, .int lt])), (a0, .inl (E.2 1, 120, .inl (nA M)))] := by first | (rw [kpL, if_neg (by omega)]; done) | (rw [kpL, if_pos (by omega), List.length_append]; rfl)
    have hP9 : va_P E.1 vwCl [(h0, .inr (4, [.ref a0, .int (nI (kpL L x).length), .int cn, .int lt])), (a0, .inl (E.2 1, 120, .inl (nA M)))] s.heap := by rw [e9]; exact hP.sub [0, 1] rfl
    have hD9 : va_D A [(h0, .inr (4, [.ref a0, .int (nI (kpL L x).length), .int cn, .int lt])), (a0, .inl (E.2 1, 120, .inl (nA M)))] := by rw [e9]; exact hD.sub [0, 1] (by decide) rfl
    exact W.vret hx hb hr (fun t9 ht9 hW9 => ⟨⟨(M), rfl, by first | (rw [kpL, if_neg (by omega)]; exact hR) | (rw [kpL, if_pos (by omega)]; exact RLs_push hR), ⟨by rw [ht9]; exact hP9, hD9⟩⟩, hS.F ht9⟩) hS.2.2 dX4_keep_29
  · have c_6 : ¬ 120 ≤ L.length := fun h9 => c_6 ((nI_leI (a := 120) (b := L.length) (by omega) (by omega)).mpr h9)
    refine lv_aload_n hx hb dX4_keep_9 rfl (lv_at hl 0 rfl) ?_
    refine va_get (D := E.1) (ci := 4) (v := .ref a0) (C := RX4) (T := TX4) (N := 4) hx hb hts hinX4 hown hK hP 0 rfl rfl 0 (by decide) (hts (.fieldLink RX4 9 "WornRings$Marks" "mended" "[I") (by decide +kernel)) (fun _ h9 => h9) rfl dX4_keep_10 ?_
    refine lv_aload_n hx hb dX4_keep_13 rfl (lv_at hl 0 rfl) ?_
    refine va_get (D := E.1) (ci := 4) (v := .int (nI L.length)) (C := RX4) (T := TX4) (N := 4) hx hb hts hinX4 hown hK hP 0 rfl rfl 1 (by decide) (hts (.fieldLink RX4 34 "WornRings$Marks" "kept" "I") (by decide +kernel)) (fun _ h9 => h9) rfl dX4_keep_14 ?_
    refine lv_iload_n hx hb dX4_keep_17 rfl (lv_at hl 1 rfl) ?_
    refine va_iast hx hb hK hP hD hS 1 1 rfl rfl (vp_in_nI (by omega) (by omega)) dX4_keep_18 (fun H locs hP hD hS => ?_)
    rw [nI_clamp (n := L.length) (by omega)] at hP hD
    rw [show upd (nA M) L.length (nI x) = nA (updN M L.length x) from upd_nA _ _ _] at hP hD
    have hP : va_P E.1 vwCl [(h0, .inr (4, [.ref a0, .int (nI L.length), .int cn, .int lt])), (a0, .inl (E.2 1, 120, .inl (nA (updN M L.length x))))] H := hP
    have hD : va_D A [(h0, .inr (4, [.ref a0, .int (nI L.length), .int cn, .int lt])), (a0, .inl (E.2 1, 120, .inl (nA (updN M L.length x))))] := hD
    refine lv_aload_n hx hb dX4_keep_19 rfl (lv_at hl 0 rfl) ?_
    refine lv_dup hx hb dX4_keep_20 rfl ?_
    refine va_get (D := E.1) (ci := 4) (v := .int (nI L.length)) (C := RX4) (T := TX4) (N := 4) hx hb hts hinX4 hown hK hP 0 rfl rfl 1 (by decide) (hts (.fieldLink RX4 34 "WornRings$Marks" "kept" "I") (by decide +kernel)) (fun _ h9 => h9) rfl dX4_keep_21 ?_
    refine lv_iconst (v := 1) hx hb dX4_keep_24 (by decide) ?_
    refine lv_iadd hx hb dX4_keep_25 ?_
    rw [show ((nI L.length) + (1 : Int32) : Int32) = nI (L.length + 1) from nI_add L.length 1]
    refine va_put (D := E.1) (ci := 4) (v := .int (nI (L.length + 1))) (ty := .int) (C := RX4) (T := TX4) (N := 4) hx hb hts hinX4 tyX4 tyX4_ok nmX4 hown hK hP hD hS 0 rfl rfl 1 (by decide) (hts (.fieldLink RX4 34 "WornRings$Marks" "kept" "I") (by decide +kernel)) (fun _ h9 => h9) rfl (by decide +kernel) (rfl) (rfl) (Nat.le_of_ble_eq_true rfl) dX4_keep_26 (fun H locs hP hD hS => ?_)
    have hP : va_P E.1 vwCl [(h0, .inr (4, [.ref a0, .int (nI (L.length + 1)), .int cn, .int lt])), (a0, .inl (E.2 1, 120, .inl (nA (updN M L.length x))))] H := hP
    have hD : va_D A [(h0, .inr (4, [.ref a0, .int (nI (L.length + 1)), .int cn, .int lt])), (a0, .inl (E.2 1, 120, .inl (nA (updN M L.length x))))] := hD
    have e9 : ([(h0, .inr (4, [.ref a0, .int (nI (kpL L x).length), .int cn, .int lt])), (a0, .inl (E.2 1, 120, .inl (nA (updN M L.length x))))] : va_W) = [(h0, .inr (4, [.ref a0, .int (nI (L.length + 1)), .int cn, .int lt])), (a0, .inl (E.2 1, 120, .inl (nA (updN M L.length x))))] := by first | (rw [kpL, if_neg (by omega)]; done) | (rw [kpL, if_pos (by omega), List.length_append]; rfl)
    have hP9 : va_P E.1 vwCl [(h0, .inr (4, [.ref a0, .int (nI (kpL L x).length), .int cn, .int lt])), (a0, .inl (E.2 1, 120, .inl (nA (updN M L.length x))))] H := by rw [e9]; exact hP.sub [0, 1] rfl
    have hD9 : va_D A [(h0, .inr (4, [.ref a0, .int (nI (kpL L x).length), .int cn, .int lt])), (a0, .inl (E.2 1, 120, .inl (nA (updN M L.length x))))] := by rw [e9]; exact hD.sub [0, 1] (by decide) rfl
    exact W.vret hx hb hr (fun t9 ht9 hW9 => ⟨⟨((updN M L.length x)), rfl, by first | (rw [kpL, if_neg (by omega)]; exact hR) | (rw [kpL, if_pos (by omega)]; exact RLs_push hR), ⟨by rw [ht9]; exact hP9, hD9⟩⟩, hS.F ht9⟩) hS.2.2 dX4_keep_29
set_option maxHeartbeats 1000000 in
set_option maxRecDepth 100000 in
theorem c_X4_mendUpTo (l : Launch) (E : EnvT) (sz : Nat) (h0 : Nat) (a0 : Nat) (L : List Nat) (cn : Int32) (lt : Int32) (M : Nat → Nat) (x : Nat) (hR : RLs M L) (hL : L.length ≤ 120) (hic : ∀ j, j + 1 < L.length → M j < M (j + 1)) (hbd : ∀ j, j < L.length → M j ≤ 1000000) (hx1 : x ≤ 1000000) (hla : 2 ≤ L.length → L.length < 120 → M (L.length - 1) < x) : Met l yX4_mendUpTo wsX4_mendUpTo ({ frames := 1, cells := 0, slots := 0, locals := 21 }) (va_Pc [.ref h0, .int (nI x)] (PW E [(h0, .inr (4, [.ref a0, .int (nI L.length), .int cn, .int lt])), (a0, .inl (E.2 1, 120, .inl (nA M)))] sz)) (va_Qv (fun (uu : (Nat → Nat)) => RLs uu (mdL L x)) (fun (uu : (Nat → Nat)) t => BW E (va_A [(h0, .inr (4, [.ref a0, .int (nI L.length), .int cn, .int lt])), (a0, .inl (E.2 1, 120, .inl (nA M)))] sz) [(h0, .inr (4, [.ref a0, .int (nI (mdL L x).length), .int cn, .int lt])), (a0, .inl (E.2 1, 120, .inl (nA uu)))] t) (va_A [(h0, .inr (4, [.ref a0, .int (nI L.length), .int cn, .int lt])), (a0, .inl (E.2 1, 120, .inl (nA M)))] sz)) 0 0 (va_A [(h0, .inr (4, [.ref a0, .int (nI L.length), .int cn, .int lt])), (a0, .inl (E.2 1, 120, .inl (nA M)))] sz) := by
  refine Met.ofW (cc := cX4_mendUpTo) (maxL := 7) (ret := none) (by decide +kernel) rfl ?_
  intro p e s m args below meth c s₁ B hml hv
  obtain ⟨rfl, hsz, hP, hE, hD0⟩ := hv
  have hx := B.exec
  have hb := B.bytes
  have hr := B.returns
  have hts := atoms_spec (ws := wsX4_mendUpTo) B.pre
  have hown : s.vm.findClass RX4 = some m.cls := findClass_of_methodNamed B.named
  have hlocks := B.notSynchronized
  have hK := hE.1
  have hNN := hE.2.1
  have hinX4 : ∀ w ∈ wsX40, w ∈ wsX4_mendUpTo := fun w h => List.mem_cons_of_mem _ (List.mem_append_right _ h)
  subst hsz
  have hD := hD0.self (sz := s.heap.size)
  generalize hAe : va_A [(h0, .inr (4, [.ref a0, .int (nI L.length), .int cn, .int lt])), (a0, .inl (E.2 1, 120, .inl (nA M)))] s.heap.size = A at hD ⊢
  have hA : ∀ q : Nat, s.heap.size ≤ q → A q := fun q h => by rw [← hAe]; exact Or.inr h
  have hS : va_S A s.heap s.heap [] := va_S.rf
  have hl := lv_entry ([.ref h0, .int (nI x)]) (n := 7) (Nat.le_of_ble_eq_true rfl)
  rw [lg_entry_eq]
  generalize (lg_sl ([.ref h0, .int (nI x)]) ++ List.replicate (7 - (lg_sl ([.ref h0, .int (nI x)])).length) Slot.unset).toArray = ls at hl ⊢
  have hl : lv_has ls 7 [(0, .ref h0), (1, .int (nI x))] := hl
  refine lv_aload_n hx hb dX4_mendUpTo_0 rfl (lv_at hl 0 rfl) ?_
  refine va_get (D := E.1) (ci := 4) (v := .int (nI L.length)) (C := RX4) (T := TX4) (N := 4) hx hb hts hinX4 hown hK hP 0 rfl rfl 1 (by decide) (hts (.fieldLink RX4 34 "WornRings$Marks" "kept" "I") (by decide +kernel)) (fun _ h9 => h9) rfl dX4_mendUpTo_1 ?_
  refine lv_iconst (v := 2) hx hb dX4_mendUpTo_4 (by decide) ?_
  refine lv_icmp_lt (tgt := 17) hx hb dX4_mendUpTo_5 (by decide) (fun c_5 => ?_) (fun c_5 => ?_)
  · have c_5 : L.length < 2 := (nI_ltI (a := L.length) (b := 2) (by omega) (by omega)).mp c_5
    have e9 : ([(h0, .inr (4, [.ref a0, .int (nI (mdL L x).length), .int cn, .int lt])), (a0, .inl (E.2 1, 120, .inl (nA M)))] : va_W) = [(h0, .inr (4, [.ref a0, .int (nI L.length), .int cn, .int lt])), (a0, .inl (E.2 1, 120, .inl (nA M)))] := by first | (rw [mdL, if_pos (Or.inl (by omega))]; done) | (rw [mdL, if_pos (Or.inr (by omega))]; done)
    have hP9 : va_P E.1 vwCl [(h0, .inr (4, [.ref a0, .int (nI (mdL L x).length), .int cn, .int lt])), (a0, .inl (E.2 1, 120, .inl (nA M)))] s.heap := by rw [e9]; exact hP.sub [0, 1] rfl
    have hD9 : va_D A [(h0, .inr (4, [.ref a0, .int (nI (mdL L x).length), .int cn, .int lt])), (a0, .inl (E.2 1, 120, .inl (nA M)))] := by rw [e9]; exact hD.sub [0, 1] (by decide) rfl
    exact W.vret hx hb hr (fun t9 ht9 hW9 => ⟨⟨(M), rfl, by first | (rw [mdL, if_pos (Or.inl (by omega))]; exact hR) | (rw [mdL, if_pos (Or.inr (by omega))]; exact hR), ⟨by rw [ht9]; exact hP9, hD9⟩⟩, hS.F ht9⟩) hS.2.2 dX4_mendUpTo_17
  · have c_5 : ¬ L.length < 2 := fun h9 => c_5 ((nI_ltI (a := L.length) (b := 2) (by omega) (by omega)).mpr h9)
    refine lv_aload_n hx hb dX4_mendUpTo_8 rfl (lv_at hl 0 rfl) ?_
    refine va_get (D := E.1) (ci := 4) (v := .int (nI L.length)) (C := RX4) (T := TX4) (N := 4) hx hb hts hinX4 hown hK hP 0 rfl rfl 1 (by decide) (hts (.fieldLink RX4 34 "WornRings$Marks" "kept" "I") (by decide +kernel)) (fun _ h9 => h9) rfl dX4_mendUpTo_9 ?_
    refine lv_bipush (v := 120) hx hb dX4_mendUpTo_12 (by decide) ?_
    refine lv_icmp_lt (tgt := 18) hx hb dX4_mendUpTo_14 (by decide) (fun c_14 => ?_) (fun c_14 => ?_)
    · have c_14 : L.length < 120 := (nI_ltI (a := L.length) (b := 120) (by omega) (by omega)).mp c_14
      have h1 : M (L.length - 2) < M (L.length - 1) := by
        have h9 := hic (L.length - 2) (by omega)
        rwa [show L.length - 2 + 1 = L.length - 1 by omega] at h9
      have h2 := hla (by omega) (by omega)
      have h3 := hbd (L.length - 1) (by omega)
      have e1 : M (L.length - 1) = frL L := hR _ (by omega)
      have e2 : M (L.length - 2) = L.getD (L.length - 2) 0 := hR _ (by omega)
      refine lv_aload_n hx hb dX4_mendUpTo_18 rfl (lv_at hl 0 rfl) ?_
      refine va_get (D := E.1) (ci := 4) (v := .ref a0) (C := RX4) (T := TX4) (N := 4) hx hb hts hinX4 hown hK hP 0 rfl rfl 0 (by decide) (hts (.fieldLink RX4 9 "WornRings$Marks" "mended" "[I") (by decide +kernel)) (fun _ h9 => h9) rfl dX4_mendUpTo_19 ?_
      refine lv_aload_n hx hb dX4_mendUpTo_22 rfl (lv_at hl 0 rfl) ?_
      refine va_get (D := E.1) (ci := 4) (v := .int (nI L.length)) (C := RX4) (T := TX4) (N := 4) hx hb hts hinX4 hown hK hP 0 rfl rfl 1 (by decide) (hts (.fieldLink RX4 34 "WornRings$Marks" "kept" "I") (by decide +kernel)) (fun _ h9 => h9) rfl dX4_mendUpTo_23 ?_
      refine lv_iconst (v := 1) hx hb dX4_mendUpTo_26 (by decide) ?_
      refine lv_isub hx hb dX4_mendUpTo_27 ?_
      rw [show ((nI L.length) - (1 : Int32) : Int32) = nI (L.length - 1) from pk_sub (a := L.length) (b := 1) (by omega)]
      refine va_iald hx hb hK hP 1 1 rfl rfl (vp_in_nI (by omega) (by omega)) dX4_mendUpTo_28 ?_
      rw [nI_clamp (n := L.length - 1) (by omega)]
      refine W.eq (g2 := F0 m 29 ls [.int (nI (M (L.length - 1)))]) rfl ?_
      obtain ⟨fr, hfr⟩ : ∃ z, z = M (L.length - 1) := ⟨_, rfl⟩
      rw [← hfr]
      refine lv_istore_n (lv' := [(2, .int (nI fr)), (0, .ref h0), (1, .int (nI x))]) hx hb dX4_mendUpTo_29 rfl hl (by decide) rfl (fun ls hl => ?_)
      refine lv_iload_n hx hb dX4_mendUpTo_30 rfl (lv_at hl 0 rfl) ?_
      refine lv_aload_n hx hb dX4_mendUpTo_31 rfl (lv_at hl 1 rfl) ?_
      refine va_get (D := E.1) (ci := 4) (v := .ref a0) (C := RX4) (T := TX4) (N := 4) hx hb hts hinX4 hown hK hP 0 rfl rfl 0 (by decide) (hts (.fieldLink RX4 9 "WornRings$Marks" "mended" "[I") (by decide +kernel)) (fun _ h9 => h9) rfl dX4_mendUpTo_32 ?_
      refine lv_aload_n hx hb dX4_mendUpTo_35 rfl (lv_at hl 1 rfl) ?_
      refine va_get (D := E.1) (ci := 4) (v := .int (nI L.length)) (C := RX4) (T := TX4) (N := 4) hx hb hts hinX4 hown hK hP 0 rfl rfl 1 (by decide) (hts (.fieldLink RX4 34 "WornRings$Marks" "kept" "I") (by decide +kernel)) (fun _ h9 => h9) rfl dX4_mendUpTo_36 ?_
      refine lv_iconst (v := 2) hx hb dX4_mendUpTo_39 (by decide) ?_
      refine lv_isub hx hb dX4_mendUpTo_40 ?_
      rw [show ((nI L.length) - (2 : Int32) : Int32) = nI (L.length - 2) from pk_sub (a := L.length) (b := 2) (by omega)]
      refine va_iald hx hb hK hP 1 1 rfl rfl (vp_in_nI (by omega) (by omega)) dX4_mendUpTo_41 ?_
      rw [nI_clamp (n := L.length - 2) (by omega)]
      refine W.eq (g2 := F0 m 42 ls [.int (nI (M (L.length - 2))), .int (nI fr)]) rfl ?_
      refine lv_isub hx hb dX4_mendUpTo_42 ?_
      rw [show ((nI fr) - (nI (M (L.length - 2))) : Int32) = nI (fr - (M (L.length - 2))) from pk_sub (a := fr) (b := (M (L.length - 2))) (by omega)]
      obtain ⟨w, hw⟩ : ∃ z, z = fr - (M (L.length - 2)) := ⟨_, rfl⟩
      rw [← hw]
      refine lv_istore_n (lv' := [(3, .int (nI w)), (2, .int (nI fr)), (0, .ref h0), (1, .int (nI x))]) hx hb dX4_mendUpTo_43 rfl hl (by decide) rfl (fun ls hl => ?_)
      refine lv_iload_n hx hb dX4_mendUpTo_44 rfl (lv_at hl 3 rfl) ?_
      refine lv_iload_n hx hb dX4_mendUpTo_45 rfl (lv_at hl 1 rfl) ?_
      refine lv_isub hx hb dX4_mendUpTo_46 ?_
      rw [show ((nI x) - (nI fr) : Int32) = nI (x - fr) from pk_sub (a := x) (b := fr) (by omega)]
      obtain ⟨way, hway⟩ : ∃ z, z = x - fr := ⟨_, rfl⟩
      rw [← hway]
      refine lv_istore (lv' := [(4, .int (nI way)), (3, .int (nI w)), (2, .int (nI fr)), (0, .ref h0), (1, .int (nI x))]) hx hb dX4_mendUpTo_47 hl (by decide) rfl (fun ls hl => ?_)
      refine lv_iload_n hx hb dX4_mendUpTo_49 rfl (lv_at hl 1 rfl) ?_
      refine lv_iconst (v := 1) hx hb dX4_mendUpTo_50 (by decide) ?_
      refine lv_icmp_lt (tgt := 64) hx hb dX4_mendUpTo_51 (by decide) (fun c_51 => by exfalso; have c_51 : w < 1 := (nI_ltI (a := w) (b := 1) (by omega) (by omega)).mp c_51; omega) (fun c_51 => ?_)
      have c_51 : ¬ w < 1 := fun h9 => c_51 ((nI_ltI (a := w) (b := 1) (by omega) (by omega)).mpr h9)
      refine lv_iconst (v := 2) hx hb dX4_mendUpTo_54 (by decide) ?_
      refine lv_iload hx hb dX4_mendUpTo_55 (lv_at hl 0 rfl) ?_
      refine lv_imul hx hb dX4_mendUpTo_57 ?_
      rw [show ((2 : Int32) * (nI way) : Int32) = nI (2 * way) from pk_mul 2 way]
      refine lv_iconst (v := 3) hx hb dX4_mendUpTo_58 (by decide) ?_
      refine lv_iload_n hx hb dX4_mendUpTo_59 rfl (lv_at hl 1 rfl) ?_
      refine lv_imul hx hb dX4_mendUpTo_60 ?_
      rw [show ((3 : Int32) * (nI w) : Int32) = nI (3 * w) from pk_mul 3 w]
      refine lv_icmp_gt (tgt := 65) hx hb dX4_mendUpTo_61 (by decide) (fun c_61 => ?_) (fun c_61 => ?_)
      · have c_61 : (3 * w) < (2 * way) := (nI_ltI (a := 3 * w) (b := 2 * way) (by omega) (by omega)).mp c_61
        refine lv_iconst (v := 2) hx hb dX4_mendUpTo_65 (by decide) ?_
        refine lv_iconst (v := 2) hx hb dX4_mendUpTo_66 (by decide) ?_
        refine lv_iload hx hb dX4_mendUpTo_67 (lv_at hl 0 rfl) ?_
        refine lv_imul hx hb dX4_mendUpTo_69 ?_
        rw [show ((2 : Int32) * (nI way) : Int32) = nI (2 * way) from pk_mul 2 way]
        refine lv_iload_n hx hb dX4_mendUpTo_70 rfl (lv_at hl 1 rfl) ?_
        refine lv_iadd hx hb dX4_mendUpTo_71 ?_
        rw [show ((nI (2 * way)) + (nI w) : Int32) = nI ((2 * way) + w) from nI_add (2 * way) w]
        refine lv_iconst (v := 2) hx hb dX4_mendUpTo_72 (by decide) ?_
        refine lv_iload_n hx hb dX4_mendUpTo_73 rfl (lv_at hl 1 rfl) ?_
        refine lv_imul hx hb dX4_mendUpTo_74 ?_
        rw [show ((2 : Int32) * (nI w) : Int32) = nI (2 * w) from pk_mul 2 w]
        refine lv_idiv hx hb dX4_mendUpTo_75 (nI_ne0 (by omega) (by omega)) ?_
        rw [show ((nI ((2 * way) + w)) / (nI (2 * w)) : Int32) = nI (((2 * way) + w) / (2 * w)) from pk_div (a := (2 * way) + w) (d := 2 * w) (by omega) (by omega) (by omega)]
        refine va_mmax hx hb (by rw [hml]; exact hl.1.symm) hown (hts (.methodLink RX4 41 Lib.Math.max.name) (by decide +kernel)) (hts (.static Lib.Math.max.name) (by decide +kernel)) (hts (.initialized "java/lang/Math") (by decide +kernel)) (hts (.code Lib.Math.max.name Lib.Math.max.code 2 (some .int)) (by decide +kernel)) (Nat.le_of_ble_eq_true rfl) (Nat.le_of_ble_eq_true rfl) (Nat.zero_le _) (Nat.zero_le _) dX4_mendUpTo_76 ?_
        have hmq2 : 2 ≤ (2 * way + w) / (2 * w) := (Nat.le_div_iff_mul_le (by omega)).mpr (by omega)
        have hmq3 : (2 * way + w) / (2 * w) ≤ 3000000 := Nat.le_trans (Nat.div_le_self _ _) (by omega)
        rw [show (if (2 : Int32) < (nI (((2 * way) + w) / (2 * w))) then (nI (((2 * way) + w) / (2 * w))) else (2 : Int32) : Int32) = nI ((2 * way + w) / (2 * w)) from max2 hmq2 (by omega)]
        obtain ⟨mq, hmq⟩ : ∃ z, z = (2 * way + w) / (2 * w) := ⟨_, rfl⟩
        rw [← hmq]
        rw [← hmq] at hmq2 hmq3
        refine lv_istore (lv' := [(5, .int (nI mq)), (4, .int (nI way)), (3, .int (nI w)), (2, .int (nI fr)), (0, .ref h0), (1, .int (nI x))]) hx hb dX4_mendUpTo_79 hl (by decide) rfl (fun ls hl => ?_)
        refine lv_iconst (v := 1) hx hb dX4_mendUpTo_81 (by decide) ?_
        refine lv_istore (lv' := [(6, .int 1), (5, .int (nI mq)), (4, .int (nI way)), (3, .int (nI w)), (2, .int (nI fr)), (0, .ref h0), (1, .int (nI x))]) hx hb dX4_mendUpTo_82 hl (by decide) rfl (fun ls hl => ?_)
        refine (fun (lp84 : ∀ (n9 : Nat) (i : Nat) (LL : List Nat) (MM : Nat → Nat) (H : Heap) (locs : List Loc) (ls : Array Slot), (mq - i) < n9 → (1 ≤ i) → (i ≤ mq) → (RLs MM LL) → (LL.length ≤ 120) → (flL fr way mq (mq + 1 - i) i LL = flL fr way mq mq 1 L) → va_P E.1 vwCl [(h0, .inr (4, [.ref a0, .int (nI LL.length), .int cn, .int lt])), (a0, .inl (E.2 1, 120, .inl (nA MM)))] H → va_D A [(h0, .inr (4, [.ref a0, .int (nI LL.length), .int cn, .int lt])), (a0, .inl (E.2 1, 120, .inl (nA MM)))] → va_S A s.heap H locs → lv_has ls 7 [(0, .ref h0), (1, .int (nI x)), (2, .int (nI fr)), (3, .int (nI w)), (4, .int (nI way)), (5, .int (nI mq)), (6, .int (nI i))] → W p l e _ s m _ below meth c H locs _ _ _ (F0 m 84 ls [])) => lp84 (mq + 1) 1 L M _ _ _ (by omega) (by omega) (by omega) (hR) (hL) (rfl) (hP.sub [0, 1] rfl) (hD.sub [0, 1] (by decide) rfl) hS (lv_sub hl [5, 6, 4, 3, 2, 1, 0] rfl)) ?_
        intro n84
        induction n84 with
        | zero => intro i LL MM H locs ls h0; exact absurd (by assumption) (Nat.not_lt_zero _)
        | succ n84 ih84 =>
          intro i LL MM H locs ls hmu84 hi hi2 hR2 hL2 hm hP hD hS hl
          refine lv_iload hx hb dX4_mendUpTo_84 (lv_at hl 6 rfl) ?_
          refine lv_iload hx hb dX4_mendUpTo_86 (lv_at hl 5 rfl) ?_
          refine lv_icmp_ge (tgt := 124) hx hb dX4_mendUpTo_88 (by decide) (fun c_88 => ?_) (fun c_88 => ?_)
          · have c_88 : mq ≤ i := (nI_leI (a := mq) (b := i) (by omega) (by omega)).mp c_88
            have ew : wyL L = w := by rw [wyL, ← e1, ← e2, hw, hfr]
            have ef : frL L = fr := by rw [← e1, hfr]
            have eq : mqL L x = mq := by rw [mqL, ew, ef, hmq, hway]
            have e9m : mdL L x = LL := by rw [mdL, if_neg (by omega), if_neg (by rw [ew, ef]; omega), eq, ef, ← hway, ← hm, show mq + 1 - i = (mq - i) + 1 by omega, flL, if_neg (by omega)]
            have e9 : ([(h0, .inr (4, [.ref a0, .int (nI (mdL L x).length), .int cn, .int lt])), (a0, .inl (E.2 1, 120, .inl (nA MM)))] : va_W) = [(h0, .inr (4, [.ref a0, .int (nI LL.length), .int cn, .int lt])), (a0, .inl (E.2 1, 120, .inl (nA MM)))] := by rw [e9m]
            have hP9 : va_P E.1 vwCl [(h0, .inr (4, [.ref a0, .int (nI (mdL L x).length), .int cn, .int lt])), (a0, .inl (E.2 1, 120, .inl (nA MM)))] H := by rw [e9]; exact hP.sub [0, 1] rfl
            have hD9 : va_D A [(h0, .inr (4, [.ref a0, .int (nI (mdL L x).length), .int cn, .int lt])), (a0, .inl (E.2 1, 120, .inl (nA MM)))] := by rw [e9]; exact hD.sub [0, 1] (by decide) rfl
            exact W.vret hx hb hr (fun t9 ht9 hW9 => ⟨⟨(MM), rfl, by rw [e9m]; exact hR2, ⟨by rw [ht9]; exact hP9, hD9⟩⟩, hS.F ht9⟩) hS.2.2 dX4_mendUpTo_124
          · have c_88 : ¬ mq ≤ i := fun h9 => c_88 ((nI_leI (a := mq) (b := i) (by omega) (by omega)).mpr h9)
            refine lv_aload_n hx hb dX4_mendUpTo_91 rfl (lv_at hl 0 rfl) ?_
            refine va_get (D := E.1) (ci := 4) (v := .int (nI LL.length)) (C := RX4) (T := TX4) (N := 4) hx hb hts hinX4 hown hK hP 0 rfl rfl 1 (by decide) (hts (.fieldLink RX4 34 "WornRings$Marks" "kept" "I") (by decide +kernel)) (fun _ h9 => h9) rfl dX4_mendUpTo_92 ?_
            refine lv_bipush (v := 120) hx hb dX4_mendUpTo_95 (by decide) ?_
            refine lv_icmp_ge (tgt := 124) hx hb dX4_mendUpTo_97 (by decide) (fun c_97 => ?_) (fun c_97 => ?_)
            · have c_97 : 120 ≤ LL.length := (nI_leI (a := 120) (b := LL.length) (by omega) (by omega)).mp c_97
              have ew : wyL L = w := by rw [wyL, ← e1, ← e2, hw, hfr]
              have ef : frL L = fr := by rw [← e1, hfr]
              have eq : mqL L x = mq := by rw [mqL, ew, ef, hmq, hway]
              have e9m : mdL L x = LL := by rw [mdL, if_neg (by omega), if_neg (by rw [ew, ef]; omega), eq, ef, ← hway, ← hm, show mq + 1 - i = (mq - i) + 1 by omega, flL, if_neg (by omega)]
              have e9 : ([(h0, .inr (4, [.ref a0, .int (nI (mdL L x).length), .int cn, .int lt])), (a0, .inl (E.2 1, 120, .inl (nA MM)))] : va_W) = [(h0, .inr (4, [.ref a0, .int (nI LL.length), .int cn, .int lt])), (a0, .inl (E.2 1, 120, .inl (nA MM)))] := by rw [e9m]
              have hP9 : va_P E.1 vwCl [(h0, .inr (4, [.ref a0, .int (nI (mdL L x).length), .int cn, .int lt])), (a0, .inl (E.2 1, 120, .inl (nA MM)))] H := by rw [e9]; exact hP.sub [0, 1] rfl
              have hD9 : va_D A [(h0, .inr (4, [.ref a0, .int (nI (mdL L x).length), .int cn, .int lt])), (a0, .inl (E.2 1, 120, .inl (nA MM)))] := by rw [e9]; exact hD.sub [0, 1] (by decide) rfl
              exact W.vret hx hb hr (fun t9 ht9 hW9 => ⟨⟨(MM), rfl, by rw [e9m]; exact hR2, ⟨by rw [ht9]; exact hP9, hD9⟩⟩, hS.F ht9⟩) hS.2.2 dX4_mendUpTo_124
            · have c_97 : ¬ 120 ≤ LL.length := fun h9 => c_97 ((nI_leI (a := 120) (b := LL.length) (by omega) (by omega)).mpr h9)
              refine lv_aload_n hx hb dX4_mendUpTo_100 rfl (lv_at hl 0 rfl) ?_
              refine lv_iload_n hx hb dX4_mendUpTo_101 rfl (lv_at hl 2 rfl) ?_
              refine lv_iload hx hb dX4_mendUpTo_102 (lv_at hl 4 rfl) ?_
              refine lv_i2l (v := lN way) hx hb dX4_mendUpTo_104 (nI_l (by omega)) ?_
              refine lv_iload hx hb dX4_mendUpTo_105 (lv_at hl 6 rfl) ?_
              refine lv_i2l (v := lN i) hx hb dX4_mendUpTo_107 (nI_l (by omega)) ?_
              refine lv_lmul hx hb dX4_mendUpTo_108 ?_
              rw [show ((lN way) * (lN i) : Int64) = lN (way * i) from lN_mul way i]
              refine lv_iload hx hb dX4_mendUpTo_109 (lv_at hl 5 rfl) ?_
              refine lv_i2l (v := lN mq) hx hb dX4_mendUpTo_111 (nI_l (by omega)) ?_
              refine lv_ldiv hx hb dX4_mendUpTo_112 (fun h9 => absurd ((pk_lEQ (a := mq) (b := 0) (by omega) (by omega)).mp h9) (by omega)) ?_
              rw [show ((lN (way * i)) / (lN mq) : Int64) = lN ((way * i) / mq) from pk_lDiv (a := way * i) (b := mq) (by have h9 := Nat.mul_le_mul (show way ≤ 1000000 by omega) (show i ≤ 3000000 by omega); omega) (by omega) (by omega)]
              refine lv_l2i (v := nI ((way * i) / mq)) hx hb dX4_mendUpTo_113 (lN_i _) ?_
              refine lv_iadd hx hb dX4_mendUpTo_114 ?_
              rw [show ((nI fr) + (nI ((way * i) / mq)) : Int32) = nI (fr + ((way * i) / mq)) from nI_add fr ((way * i) / mq)]
              refine wVv (wr := []) hE ⟨hx, hb, hml, hown, hts⟩ (c_X4_keep l E H.size h0 a0 LL cn lt MM (fr + ((way * i) / mq)) (hR2) (hL2)) (cwV 1 hts gX4_mendUpTo_X4_keep rfl rfl rfl (by decide +kernel) ⟨Nat.le_of_ble_eq_true rfl, Nat.le_of_ble_eq_true rfl⟩) hP hD hS hA [0, 1] [] rfl rfl (by decide) (by decide) (by decide) 0 4 rfl rfl rfl hl.1 rfl (Nat.le_of_ble_eq_true rfl) dX4_mendUpTo_115 ⟨(Nat.zero_le _), (Nat.zero_le _)⟩ (fun u H locs hw hP hD hS => ?_)
              obtain ⟨M2_115, rfl⟩ : ∃ z, z = u := ⟨_, rfl⟩
              have hP : va_P E.1 vwCl [(h0, .inr (4, [.ref a0, .int (nI (kpL LL (fr + ((way * i) / mq))).length), .int cn, .int lt])), (a0, .inl (E.2 1, 120, .inl (nA M2_115)))] H := hP
              have hD : va_D A [(h0, .inr (4, [.ref a0, .int (nI (kpL LL (fr + ((way * i) / mq))).length), .int cn, .int lt])), (a0, .inl (E.2 1, 120, .inl (nA M2_115)))] := hD
              have hm_115 := hw
              refine lv_iinc (v := nI (i + 1)) (lv' := [(6, .int (nI (i + 1))), (0, .ref h0), (1, .int (nI x)), (2, .int (nI fr)), (3, .int (nI w)), (4, .int (nI way)), (5, .int (nI mq))]) hx hb dX4_mendUpTo_118 hl (k := 6) rfl (nI_add i 1) (by decide) rfl (fun ls hl => ?_)
              refine lv_goto (tgt := 84) hx hb dX4_mendUpTo_121 (by decide) ?_
              exact ih84 (i + 1) (kpL LL (fr + way * i / mq)) M2_115 _ _ _ (by omega) (by omega) (by omega) (hm_115) (kpL_len _ _ hL2) (by rw [← hm, show mq + 1 - i = (mq + 1 - (i + 1)) + 1 by omega, flL, if_pos ⟨by omega, by omega⟩]) (hP.sub [0, 1] rfl) (hD.sub [0, 1] (by decide) rfl) hS (lv_sub hl [1, 2, 3, 4, 5, 6, 0] rfl)
      · have c_61 : ¬ (3 * w) < (2 * way) := fun h9 => c_61 ((nI_ltI (a := 3 * w) (b := 2 * way) (by omega) (by omega)).mpr h9)
        have ew : wyL L = w := by rw [wyL, ← e1, ← e2, hw, hfr]
        have ef : frL L = fr := by rw [← e1, hfr]
        have e9m : mdL L x = L := by rw [mdL, if_neg (by omega), if_pos (by rw [ew, ef]; omega)]
        have e9 : ([(h0, .inr (4, [.ref a0, .int (nI (mdL L x).length), .int cn, .int lt])), (a0, .inl (E.2 1, 120, .inl (nA M)))] : va_W) = [(h0, .inr (4, [.ref a0, .int (nI L.length), .int cn, .int lt])), (a0, .inl (E.2 1, 120, .inl (nA M)))] := by rw [e9m]
        have hP9 : va_P E.1 vwCl [(h0, .inr (4, [.ref a0, .int (nI (mdL L x).length), .int cn, .int lt])), (a0, .inl (E.2 1, 120, .inl (nA M)))] s.heap := by rw [e9]; exact hP.sub [0, 1] rfl
        have hD9 : va_D A [(h0, .inr (4, [.ref a0, .int (nI (mdL L x).length), .int cn, .int lt])), (a0, .inl (E.2 1, 120, .inl (nA M)))] := by rw [e9]; exact hD.sub [0, 1] (by decide) rfl
        exact W.vret hx hb hr (fun t9 ht9 hW9 => ⟨⟨(M), rfl, by rw [e9m]; exact hR, ⟨by rw [ht9]; exact hP9, hD9⟩⟩, hS.F ht9⟩) hS.2.2 dX4_mendUpTo_64
    · have c_14 : ¬ L.length < 120 := fun h9 => c_14 ((nI_ltI (a := L.length) (b := 120) (by omega) (by omega)).mpr h9)
      have e9 : ([(h0, .inr (4, [.ref a0, .int (nI (mdL L x).length), .int cn, .int lt])), (a0, .inl (E.2 1, 120, .inl (nA M)))] : va_W) = [(h0, .inr (4, [.ref a0, .int (nI L.length), .int cn, .int lt])), (a0, .inl (E.2 1, 120, .inl (nA M)))] := by first | (rw [mdL, if_pos (Or.inl (by omega))]; done) | (rw [mdL, if_pos (Or.inr (by omega))]; done)
      have hP9 : va_P E.1 vwCl [(h0, .inr (4, [.ref a0, .int (nI (mdL L x).length), .int cn, .int lt])), (a0, .inl (E.2 1, 120, .inl (nA M)))] s.heap := by rw [e9]; exact hP.sub [0, 1] rfl
      have hD9 : va_D A [(h0, .inr (4, [.ref a0, .int (nI (mdL L x).length), .int cn, .int lt])), (a0, .inl (E.2 1, 120, .inl (nA M)))] := by rw [e9]; exact hD.sub [0, 1] (by decide) rfl
      exact W.vret hx hb hr (fun t9 ht9 hW9 => ⟨⟨(M), rfl, by first | (rw [mdL, if_pos (Or.inl (by omega))]; exact hR) | (rw [mdL, if_pos (Or.inr (by omega))]; exact hR), ⟨by rw [ht9]; exact hP9, hD9⟩⟩, hS.F ht9⟩) hS.2.2 dX4_mendUpTo_17
set_option maxHeartbeats 1000000 in
set_option maxRecDepth 100000 in
theorem c_X4_clear (l : Launch) (E : EnvT) (sz : Nat) (h0 : Nat) (a0 : Nat) (L : List Nat) (cn : Int32) (lt : Int32) (M : Nat → Nat)  : Met l yX4_clear wsX4_clear ({ frames := 0, cells := 0, slots := 0, locals := 0 }) (va_Pc [.ref h0] (PW E [(h0, .inr (4, [.ref a0, .int (nI L.length), .int cn, .int lt])), (a0, .inl (E.2 1, 120, .inl (nA M)))] sz)) (va_Qi (fun (r : Int32) (uu : Unit) => r = cn) (fun (uu : Unit) t => BW E (va_A [(h0, .inr (4, [.ref a0, .int (nI L.length), .int cn, .int lt])), (a0, .inl (E.2 1, 120, .inl (nA M)))] sz) [(h0, .inr (4, [.ref a0, .int 0, .int 0, .int lt])), (a0, .inl (E.2 1, 120, .inl (nA M)))] t) (va_A [(h0, .inr (4, [.ref a0, .int (nI L.length), .int cn, .int lt])), (a0, .inl (E.2 1, 120, .inl (nA M)))] sz)) 0 0 (va_A [(h0, .inr (4, [.ref a0, .int (nI L.length), .int cn, .int lt])), (a0, .inl (E.2 1, 120, .inl (nA M)))] sz) := by
  refine Met.ofW (cc := cX4_clear) (maxL := 2) (ret := (some .int)) (by decide +kernel) rfl ?_
  intro p e s m args below meth c s₁ B hml hv
  obtain ⟨rfl, hsz, hP, hE, hD0⟩ := hv
  have hx := B.exec
  have hb := B.bytes
  have hr := B.returns
  have hts := atoms_spec (ws := wsX4_clear) B.pre
  have hown : s.vm.findClass RX4 = some m.cls := findClass_of_methodNamed B.named
  have hlocks := B.notSynchronized
  have hK := hE.1
  have hNN := hE.2.1
  have hinX4 : ∀ w ∈ wsX40, w ∈ wsX4_clear := fun w h => List.mem_cons_of_mem _ (List.mem_append_right _ h)
  subst hsz
  have hD := hD0.self (sz := s.heap.size)
  generalize hAe : va_A [(h0, .inr (4, [.ref a0, .int (nI L.length), .int cn, .int lt])), (a0, .inl (E.2 1, 120, .inl (nA M)))] s.heap.size = A at hD ⊢
  have hA : ∀ q : Nat, s.heap.size ≤ q → A q := fun q h => by rw [← hAe]; exact Or.inr h
  have hS : va_S A s.heap s.heap [] := va_S.rf
  have hl := lv_entry ([.ref h0]) (n := 2) (Nat.le_of_ble_eq_true rfl)
  rw [lg_entry_eq]
  generalize (lg_sl ([.ref h0]) ++ List.replicate (2 - (lg_sl ([.ref h0])).length) Slot.unset).toArray = ls at hl ⊢
  have hl : lv_has ls 2 [(0, .ref h0)] := hl
  refine lv_aload_n hx hb dX4_clear_0 rfl (lv_at hl 0 rfl) ?_
  refine va_get (D := E.1) (ci := 4) (v := .int cn) (C := RX4) (T := TX4) (N := 4) hx hb hts hinX4 hown hK hP 0 rfl rfl 2 (by decide) (hts (.fieldLink RX4 20 "WornRings$Marks" "count" "I") (by decide +kernel)) (fun _ h9 => h9) rfl dX4_clear_1 ?_
  refine lv_istore_n (lv' := [(1, .int cn), (0, .ref h0)]) hx hb dX4_clear_4 rfl hl (by decide) rfl (fun ls hl => ?_)
  refine lv_aload_n hx hb dX4_clear_5 rfl (lv_at hl 1 rfl) ?_
  refine lv_iconst (v := 0) hx hb dX4_clear_6 (by decide) ?_
  refine va_put (D := E.1) (ci := 4) (v := .int 0) (ty := .int) (C := RX4) (T := TX4) (N := 4) hx hb hts hinX4 tyX4 tyX4_ok nmX4 hown hK hP hD hS 0 rfl rfl 2 (by decide) (hts (.fieldLink RX4 20 "WornRings$Marks" "count" "I") (by decide +kernel)) (fun _ h9 => h9) rfl (by decide +kernel) (rfl) (rfl) (Nat.le_of_ble_eq_true rfl) dX4_clear_7 (fun H locs hP hD hS => ?_)
  have hP : va_P E.1 vwCl [(h0, .inr (4, [.ref a0, .int (nI L.length), .int 0, .int lt])), (a0, .inl (E.2 1, 120, .inl (nA M)))] H := hP
  have hD : va_D A [(h0, .inr (4, [.ref a0, .int (nI L.length), .int 0, .int lt])), (a0, .inl (E.2 1, 120, .inl (nA M)))] := hD
  refine lv_aload_n hx hb dX4_clear_10 rfl (lv_at hl 1 rfl) ?_
  refine lv_iconst (v := 0) hx hb dX4_clear_11 (by decide) ?_
  refine va_put (D := E.1) (ci := 4) (v := .int 0) (ty := .int) (C := RX4) (T := TX4) (N := 4) hx hb hts hinX4 tyX4 tyX4_ok nmX4 hown hK hP hD hS 0 rfl rfl 1 (by decide) (hts (.fieldLink RX4 34 "WornRings$Marks" "kept" "I") (by decide +kernel)) (fun _ h9 => h9) rfl (by decide +kernel) (rfl) (rfl) (Nat.le_of_ble_eq_true rfl) dX4_clear_12 (fun H locs hP hD hS => ?_)
  have hP : va_P E.1 vwCl [(h0, .inr (4, [.ref a0, .int 0, .int 0, .int lt])), (a0, .inl (E.2 1, 120, .inl (nA M)))] H := hP
  have hD : va_D A [(h0, .inr (4, [.ref a0, .int 0, .int 0, .int lt])), (a0, .inl (E.2 1, 120, .inl (nA M)))] := hD
  refine lv_iload_n hx hb dX4_clear_15 rfl (lv_at hl 0 rfl) ?_
  have hP9 : va_P E.1 vwCl [(h0, .inr (4, [.ref a0, .int 0, .int 0, .int lt])), (a0, .inl (E.2 1, 120, .inl (nA M)))] H := hP.sub [0, 1] rfl
  have hD9 : va_D A [(h0, .inr (4, [.ref a0, .int 0, .int 0, .int lt])), (a0, .inl (E.2 1, 120, .inl (nA M)))] := hD.sub [0, 1] (by decide) rfl
  exact W.iret (v := cn) hx hb hr (fun t9 ht9 hW9 => ⟨⟨cn, (), rfl, by first | rfl | (simp; done), ⟨by rw [ht9]; exact hP9, hD9⟩⟩, hS.F ht9⟩) hS.2.2 dX4_clear_16
set_option maxHeartbeats 1000000 in
set_option maxRecDepth 100000 in
theorem c_X4_hasTurns (l : Launch) (E : EnvT) (h0 : Nat) (a0 : Nat) (L : List Nat) (cn : Int32) (lt : Int32) (M : Nat → Nat) (nn : Nat) (cc : Nat) (hL : L.length ≤ 120) (hn : nn < 2 ^ 31) (hc : cc ≤ 100) : Met l yX4_hasTurns wsX4_hasTurns ({ frames := 0, cells := 0, slots := 0, locals := 0 }) (va_Pc [.ref h0, .int (nI nn), .int (nI cc)] (PR E [(h0, .inr (4, [.ref a0, .int (nI L.length), .int cn, .int lt])), (a0, .inl (E.2 1, 120, .inl (nA M)))])) (vp_Si (fun r => r = fHT L.length nn cc)) 0 0 (fun _ => False) := by
  refine Met.ofW (cc := cX4_hasTurns) (maxL := 3) (ret := (some .boolean)) (by decide +kernel) rfl ?_
  intro p e s m args below meth c s₁ B hml hv
  obtain ⟨rfl, hP, hE⟩ := hv
  have hx := B.exec
  have hb := B.bytes
  have hr := B.returns
  have hts := atoms_spec (ws := wsX4_hasTurns) B.pre
  have hown : s.vm.findClass RX4 = some m.cls := findClass_of_methodNamed B.named
  have hlocks := B.notSynchronized
  have hK := hE.1
  have hNN := hE.2.1
  have hinX4 : ∀ w ∈ wsX40, w ∈ wsX4_hasTurns := fun w h => List.mem_cons_of_mem _ (List.mem_append_right _ h)
  have hl := lv_entry ([.ref h0, .int (nI nn), .int (nI cc)]) (n := 3) (Nat.le_of_ble_eq_true rfl)
  rw [lg_entry_eq]
  generalize (lg_sl ([.ref h0, .int (nI nn), .int (nI cc)]) ++ List.replicate (3 - (lg_sl ([.ref h0, .int (nI nn), .int (nI cc)])).length) Slot.unset).toArray = ls at hl ⊢
  have hl : lv_has ls 3 [(0, .ref h0), (1, .int (nI nn)), (2, .int (nI cc))] := hl
  refine lv_iload_n hx hb dX4_hasTurns_0 rfl (lv_at hl 1 rfl) ?_
  refine lv_if_lt (tgt := 24) hx hb dX4_hasTurns_1 (by decide) (fun c_1 => by exfalso; have c_1 : nn < 0 := (nI_ltI (a := nn) (b := 0) (by omega) (by omega)).mp c_1; omega) (fun c_1 => ?_)
  have c_1 : ¬ nn < 0 := fun h9 => c_1 ((nI_ltI (a := nn) (b := 0) (by omega) (by omega)).mpr h9)
  refine lv_iload_n hx hb dX4_hasTurns_4 rfl (lv_at hl 2 rfl) ?_
  refine lv_if_le (tgt := 24) hx hb dX4_hasTurns_5 (by decide) (fun c_5 => ?_) (fun c_5 => ?_)
  · have c_5 : cc ≤ 0 := (nI_leI (a := cc) (b := 0) (by omega) (by omega)).mp c_5
    refine lv_iconst (v := 0) hx hb dX4_hasTurns_24 (by decide) ?_
    exact W.zret (v := 0) hx hb hr (rfl) (fun t9 ht9 hW9 => ⟨0, rfl, by first | exact (if_pos ⟨by omega, by omega⟩).symm | exact (if_neg (by omega)).symm, ht9⟩) (fun _ h => absurd h List.not_mem_nil) dX4_hasTurns_25
  · have c_5 : ¬ cc ≤ 0 := fun h9 => c_5 ((nI_leI (a := cc) (b := 0) (by omega) (by omega)).mpr h9)
    refine lv_iload_n hx hb dX4_hasTurns_8 rfl (lv_at hl 1 rfl) ?_
    refine lv_aload_n hx hb dX4_hasTurns_9 rfl (lv_at hl 0 rfl) ?_
    refine va_get (D := E.1) (ci := 4) (v := .int (nI L.length)) (C := RX4) (T := TX4) (N := 4) hx hb hts hinX4 hown hK hP 0 rfl rfl 1 (by decide) (hts (.fieldLink RX4 34 "WornRings$Marks" "kept" "I") (by decide +kernel)) (fun _ h9 => h9) rfl dX4_hasTurns_10 ?_
    refine lv_iconst (v := 1) hx hb dX4_hasTurns_13 (by decide) ?_
    refine lv_isub hx hb dX4_hasTurns_14 ?_
    refine lv_iload_n hx hb dX4_hasTurns_15 rfl (lv_at hl 2 rfl) ?_
    refine lv_isub hx hb dX4_hasTurns_16 ?_
    refine lv_icmp_gt (tgt := 24) hx hb dX4_hasTurns_17 (by decide) (fun c_17 => ?_) (fun c_17 => ?_)
    · have c_17 : ¬ nn + cc + 1 ≤ L.length := by
        rw [Int32.lt_iff_toInt_lt, ht_sub hL hc, nI_toInt (by omega)] at c_17
        omega
      refine lv_iconst (v := 0) hx hb dX4_hasTurns_24 (by decide) ?_
      exact W.zret (v := 0) hx hb hr (rfl) (fun t9 ht9 hW9 => ⟨0, rfl, by first | exact (if_pos ⟨by omega, by omega⟩).symm | exact (if_neg (by omega)).symm, ht9⟩) (fun _ h => absurd h List.not_mem_nil) dX4_hasTurns_25
    · have c_17 : nn + cc + 1 ≤ L.length := by
        rw [Int32.lt_iff_toInt_lt, ht_sub hL hc, nI_toInt (by omega)] at c_17
        omega
      refine lv_iconst (v := 1) hx hb dX4_hasTurns_20 (by decide) ?_
      refine lv_goto (tgt := 25) hx hb dX4_hasTurns_21 (by decide) ?_
      exact W.zret (v := 1) hx hb hr (rfl) (fun t9 ht9 hW9 => ⟨1, rfl, by first | exact (if_pos ⟨by omega, by omega⟩).symm | exact (if_neg (by omega)).symm, ht9⟩) (fun _ h => absurd h List.not_mem_nil) dX4_hasTurns_25
set_option maxHeartbeats 1000000 in
set_option maxRecDepth 100000 in
theorem c_X4_endOf (l : Launch) (E : EnvT) (h0 : Nat) (a0 : Nat) (L : List Nat) (cn : Int32) (lt : Int32) (M : Nat → Nat) (nn : Nat) (hL : L.length ≤ 120) (hn : nn + 1 < L.length) : Met l yX4_endOf wsX4_endOf ({ frames := 1, cells := 0, slots := 0, locals := 22 }) (va_Pc [.ref h0, .int (nI nn)] (PR E [(h0, .inr (4, [.ref a0, .int (nI L.length), .int cn, .int lt])), (a0, .inl (E.2 1, 120, .inl (nA M)))])) (vp_Si (fun r => r = nI (M (nn + 1)))) 0 0 (fun _ => False) := by
  refine Met.ofW (cc := cX4_endOf) (maxL := 2) (ret := (some .int)) (by decide +kernel) rfl ?_
  intro p e s m args below meth c s₁ B hml hv
  obtain ⟨rfl, hP, hE⟩ := hv
  have hx := B.exec
  have hb := B.bytes
  have hr := B.returns
  have hts := atoms_spec (ws := wsX4_endOf) B.pre
  have hown : s.vm.findClass RX4 = some m.cls := findClass_of_methodNamed B.named
  have hlocks := B.notSynchronized
  have hK := hE.1
  have hNN := hE.2.1
  have hinX4 : ∀ w ∈ wsX40, w ∈ wsX4_endOf := fun w h => List.mem_cons_of_mem _ (List.mem_append_right _ h)
  have hl := lv_entry ([.ref h0, .int (nI nn)]) (n := 2) (Nat.le_of_ble_eq_true rfl)
  rw [lg_entry_eq]
  generalize (lg_sl ([.ref h0, .int (nI nn)]) ++ List.replicate (2 - (lg_sl ([.ref h0, .int (nI nn)])).length) Slot.unset).toArray = ls at hl ⊢
  have hl : lv_has ls 2 [(0, .ref h0), (1, .int (nI nn))] := hl
  refine lv_aload_n hx hb dX4_endOf_0 rfl (lv_at hl 0 rfl) ?_
  refine lv_iload_n hx hb dX4_endOf_1 rfl (lv_at hl 1 rfl) ?_
  refine lv_iconst (v := 1) hx hb dX4_endOf_2 (by decide) ?_
  refine rVi hE ⟨hx, hb, hml, hown, hts⟩ (c_X4_hasTurns l E h0 a0 L cn lt M nn 1 (hL) (by omega) (by omega)) (cwV 2 hts gX4_endOf_X4_hasTurns rfl rfl rfl (by decide +kernel) ⟨Nat.le_of_ble_eq_true rfl, Nat.le_of_ble_eq_true rfl⟩) (hP.sub [0, 1] rfl) 0 4 rfl rfl rfl hl.1 rfl (Nat.le_of_ble_eq_true rfl) dX4_endOf_3 ⟨(Nat.zero_le _), (Nat.zero_le _)⟩ ?_
  refine lv_if_eq (tgt := 20) hx hb dX4_endOf_6 (by decide) (fun c_6 => by exfalso; have c_6 := fHT_0 c_6; omega) (fun c_6 => ?_)
  have c_6 := fHT_1 c_6
  refine lv_aload_n hx hb dX4_endOf_9 rfl (lv_at hl 0 rfl) ?_
  refine va_get (D := E.1) (ci := 4) (v := .ref a0) (C := RX4) (T := TX4) (N := 4) hx hb hts hinX4 hown hK hP 0 rfl rfl 0 (by decide) (hts (.fieldLink RX4 9 "WornRings$Marks" "mended" "[I") (by decide +kernel)) (fun _ h9 => h9) rfl dX4_endOf_10 ?_
  refine lv_iload_n hx hb dX4_endOf_13 rfl (lv_at hl 1 rfl) ?_
  refine lv_iconst (v := 1) hx hb dX4_endOf_14 (by decide) ?_
  refine lv_iadd hx hb dX4_endOf_15 ?_
  rw [show ((nI nn) + (1 : Int32) : Int32) = nI (nn + 1) from nI_add nn 1]
  refine va_iald hx hb hK hP 1 1 rfl rfl (vp_in_nI (by omega) (by omega)) dX4_endOf_16 ?_
  rw [nI_clamp (n := nn + 1) (by omega)]
  refine W.eq (g2 := F0 m 17 ls [.int (nI (M (nn + 1)))]) rfl ?_
  refine lv_goto (tgt := 22) hx hb dX4_endOf_17 (by decide) ?_
  exact W.iret (v := nI (M (nn + 1))) hx hb hr (fun t9 ht9 hW9 => ⟨nI (M (nn + 1)), rfl, rfl, ht9⟩) (fun _ h => absurd h List.not_mem_nil) dX4_endOf_22
set_option maxHeartbeats 1000000 in
set_option maxRecDepth 100000 in
theorem c_X4_timeIn (l : Launch) (E : EnvT) (h0 : Nat) (a0 : Nat) (L : List Nat) (cn : Int32) (lt : Int32) (M : Nat → Nat) (nn : Nat) (j : Nat) (hL : L.length ≤ 120) (hn : nn + 1 < L.length) (hj : j ≤ 31) (hic : M nn < M (nn + 1)) (hbd : M (nn + 1) ≤ 1000000) : Met l yX4_timeIn wsX4_timeIn ({ frames := 1, cells := 0, slots := 0, locals := 22 }) (va_Pc [.ref h0, .int (nI nn), .int (nI j)] (PR E [(h0, .inr (4, [.ref a0, .int (nI L.length), .int cn, .int lt])), (a0, .inl (E.2 1, 120, .inl (nA M)))])) (vp_Si (fun r => r = nI (M nn + (M (nn + 1) - M nn) * j / 32))) 0 0 (fun _ => False) := by
  refine Met.ofW (cc := cX4_timeIn) (maxL := 4) (ret := (some .int)) (by decide +kernel) rfl ?_
  intro p e s m args below meth c s₁ B hml hv
  obtain ⟨rfl, hP, hE⟩ := hv
  have hx := B.exec
  have hb := B.bytes
  have hr := B.returns
  have hts := atoms_spec (ws := wsX4_timeIn) B.pre
  have hown : s.vm.findClass RX4 = some m.cls := findClass_of_methodNamed B.named
  have hlocks := B.notSynchronized
  have hK := hE.1
  have hNN := hE.2.1
  have hinX4 : ∀ w ∈ wsX40, w ∈ wsX4_timeIn := fun w h => List.mem_cons_of_mem _ (List.mem_append_right _ h)
  have hl := lv_entry ([.ref h0, .int (nI nn), .int (nI j)]) (n := 4) (Nat.le_of_ble_eq_true rfl)
  rw [lg_entry_eq]
  generalize (lg_sl ([.ref h0, .int (nI nn), .int (nI j)]) ++ List.replicate (4 - (lg_sl ([.ref h0, .int (nI nn), .int (nI j)])).length) Slot.unset).toArray = ls at hl ⊢
  have hl : lv_has ls 4 [(0, .ref h0), (1, .int (nI nn)), (2, .int (nI j))] := hl
  refine lv_aload_n hx hb dX4_timeIn_0 rfl (lv_at hl 0 rfl) ?_
  refine lv_iload_n hx hb dX4_timeIn_1 rfl (lv_at hl 1 rfl) ?_
  refine lv_iconst (v := 1) hx hb dX4_timeIn_2 (by decide) ?_
  refine rVi hE ⟨hx, hb, hml, hown, hts⟩ (c_X4_hasTurns l E h0 a0 L cn lt M nn 1 (hL) (by omega) (by omega)) (cwV 2 hts gX4_timeIn_X4_hasTurns rfl rfl rfl (by decide +kernel) ⟨Nat.le_of_ble_eq_true rfl, Nat.le_of_ble_eq_true rfl⟩) (hP.sub [0, 1] rfl) 0 4 rfl rfl rfl hl.1 rfl (Nat.le_of_ble_eq_true rfl) dX4_timeIn_3 ⟨(Nat.zero_le _), (Nat.zero_le _)⟩ ?_
  refine lv_if_ne (tgt := 12) hx hb dX4_timeIn_6 (by decide) (fun c_6 => ?_) (fun c_6 => by exfalso; have c_6 := fHT_0 c_6; omega)
  have c_6 := fHT_1 c_6
  refine lv_aload_n hx hb dX4_timeIn_12 rfl (lv_at hl 0 rfl) ?_
  refine va_get (D := E.1) (ci := 4) (v := .ref a0) (C := RX4) (T := TX4) (N := 4) hx hb hts hinX4 hown hK hP 0 rfl rfl 0 (by decide) (hts (.fieldLink RX4 9 "WornRings$Marks" "mended" "[I") (by decide +kernel)) (fun _ h9 => h9) rfl dX4_timeIn_13 ?_
  refine lv_iload_n hx hb dX4_timeIn_16 rfl (lv_at hl 1 rfl) ?_
  refine lv_iconst (v := 1) hx hb dX4_timeIn_17 (by decide) ?_
  refine lv_iadd hx hb dX4_timeIn_18 ?_
  rw [show ((nI nn) + (1 : Int32) : Int32) = nI (nn + 1) from nI_add nn 1]
  refine va_iald hx hb hK hP 1 1 rfl rfl (vp_in_nI (by omega) (by omega)) dX4_timeIn_19 ?_
  rw [nI_clamp (n := nn + 1) (by omega)]
  refine W.eq (g2 := F0 m 20 ls [.int (nI (M (nn + 1)))]) rfl ?_
  refine lv_aload_n hx hb dX4_timeIn_20 rfl (lv_at hl 0 rfl) ?_
  refine va_get (D := E.1) (ci := 4) (v := .ref a0) (C := RX4) (T := TX4) (N := 4) hx hb hts hinX4 hown hK hP 0 rfl rfl 0 (by decide) (hts (.fieldLink RX4 9 "WornRings$Marks" "mended" "[I") (by decide +kernel)) (fun _ h9 => h9) rfl dX4_timeIn_21 ?_
  refine lv_iload_n hx hb dX4_timeIn_24 rfl (lv_at hl 1 rfl) ?_
  refine va_iald hx hb hK hP 1 1 rfl rfl (vp_in_nI (by omega) (by omega)) dX4_timeIn_25 ?_
  rw [nI_clamp (n := nn) (by omega)]
  refine W.eq (g2 := F0 m 26 ls [.int (nI (M nn)), .int (nI (M (nn + 1)))]) rfl ?_
  refine lv_isub hx hb dX4_timeIn_26 ?_
  rw [show ((nI (M (nn + 1))) - (nI (M nn)) : Int32) = nI ((M (nn + 1)) - (M nn)) from pk_sub (a := (M (nn + 1))) (b := (M nn)) (by omega)]
  refine lv_istore_n (lv' := [(3, .int (nI ((M (nn + 1)) - (M nn)))), (0, .ref h0), (1, .int (nI nn)), (2, .int (nI j))]) hx hb dX4_timeIn_27 rfl hl (by decide) rfl (fun ls hl => ?_)
  refine lv_aload_n hx hb dX4_timeIn_28 rfl (lv_at hl 1 rfl) ?_
  refine va_get (D := E.1) (ci := 4) (v := .ref a0) (C := RX4) (T := TX4) (N := 4) hx hb hts hinX4 hown hK hP 0 rfl rfl 0 (by decide) (hts (.fieldLink RX4 9 "WornRings$Marks" "mended" "[I") (by decide +kernel)) (fun _ h9 => h9) rfl dX4_timeIn_29 ?_
  refine lv_iload_n hx hb dX4_timeIn_32 rfl (lv_at hl 2 rfl) ?_
  refine va_iald hx hb hK hP 1 1 rfl rfl (vp_in_nI (by omega) (by omega)) dX4_timeIn_33 ?_
  rw [nI_clamp (n := nn) (by omega)]
  refine W.eq (g2 := F0 m 34 ls [.int (nI (M nn))]) rfl ?_
  refine lv_iload_n hx hb dX4_timeIn_34 rfl (lv_at hl 0 rfl) ?_
  refine lv_iload_n hx hb dX4_timeIn_35 rfl (lv_at hl 3 rfl) ?_
  refine lv_imul hx hb dX4_timeIn_36 ?_
  rw [show ((nI ((M (nn + 1)) - (M nn))) * (nI j) : Int32) = nI (((M (nn + 1)) - (M nn)) * j) from pk_mul ((M (nn + 1)) - (M nn)) j]
  refine lv_bipush (v := 32) hx hb dX4_timeIn_37 (by decide) ?_
  refine lv_idiv hx hb dX4_timeIn_39 (by decide) ?_
  rw [show ((nI (((M (nn + 1)) - (M nn)) * j)) / (32 : Int32) : Int32) = nI ((((M (nn + 1)) - (M nn)) * j) / 32) from pk_div (a := ((M (nn + 1)) - (M nn)) * j) (d := 32) (by have h9 := Nat.mul_le_mul (show M (nn + 1) - M nn ≤ 1000000 by omega) hj; omega) (by omega) (by omega)]
  refine lv_iadd hx hb dX4_timeIn_40 ?_
  rw [show ((nI (M nn)) + (nI ((((M (nn + 1)) - (M nn)) * j) / 32)) : Int32) = nI ((M nn) + ((((M (nn + 1)) - (M nn)) * j) / 32)) from nI_add (M nn) ((((M (nn + 1)) - (M nn)) * j) / 32)]
  exact W.iret (v := nI ((M nn) + ((((M (nn + 1)) - (M nn)) * j) / 32))) hx hb hr (fun t9 ht9 hW9 => ⟨nI ((M nn) + ((((M (nn + 1)) - (M nn)) * j) / 32)), rfl, rfl, ht9⟩) (fun _ h => absurd h List.not_mem_nil) dX4_timeIn_41
def mkB (k lt : Nat) (tv : Int32) : Prop := (0 ≤ tv ∧ tv ≤ 1000000) ∧ ¬ (0 < k ∧ tv ≤ nI lt)

set_option maxHeartbeats 1000000 in
set_option maxRecDepth 100000 in
theorem c_X4_add_no (l : Launch) (E : EnvT) (sz : Nat) (h0 : Nat) (a0 : Nat) (L : List Nat) (k : Nat) (lt : Nat) (M : Nat → Nat) (tv : Int32) (hR : RLs M L) (hL : L.length ≤ 120) (hic : ∀ j, j + 1 < L.length → M j < M (j + 1)) (hbd : ∀ j, j < L.length → M j ≤ 1000000) (hlt : lt ≤ 1000000) (hk : k ≤ 60) (hla : 2 ≤ L.length → L.length < 120 → 0 < k ∧ M (L.length - 1) = lt) (hno : ¬ ((0 ≤ tv ∧ tv ≤ 1000000) ∧ ¬ (0 < k ∧ tv ≤ nI lt)) ∨ 60 ≤ k) : Met l yX4_add wsX4_add ({ frames := 1, cells := 0, slots := 0, locals := 22 }) (va_Pc [.ref h0, .int tv] (PW E [(h0, .inr (4, [.ref a0, .int (nI L.length), .int (nI k), .int (nI lt)])), (a0, .inl (E.2 1, 120, .inl (nA M)))] sz)) (va_Qi (fun (r : Int32) (uu : Unit) => r = if (0 ≤ tv ∧ tv ≤ 1000000) ∧ ¬ (0 < k ∧ tv ≤ nI lt) then -3 else -1) (fun (uu : Unit) t => BW E (va_A [(h0, .inr (4, [.ref a0, .int (nI L.length), .int (nI k), .int (nI lt)])), (a0, .inl (E.2 1, 120, .inl (nA M)))] sz) [(h0, .inr (4, [.ref a0, .int (nI L.length), .int (nI k), .int (nI lt)])), (a0, .inl (E.2 1, 120, .inl (nA M)))] t) (va_A [(h0, .inr (4, [.ref a0, .int (nI L.length), .int (nI k), .int (nI lt)])), (a0, .inl (E.2 1, 120, .inl (nA M)))] sz)) 0 0 (va_A [(h0, .inr (4, [.ref a0, .int (nI L.length), .int (nI k), .int (nI lt)])), (a0, .inl (E.2 1, 120, .inl (nA M)))] sz) := by
  refine Met.ofW (cc := cX4_add) (maxL := 2) (ret := (some .int)) (by decide +kernel) rfl ?_
  intro p e s m args below meth c s₁ B hml hv
  obtain ⟨rfl, hsz, hP, hE, hD0⟩ := hv
  have hx := B.exec
  have hb := B.bytes
  have hr := B.returns
  have hts := atoms_spec (ws := wsX4_add) B.pre
  have hown : s.vm.findClass RX4 = some m.cls := findClass_of_methodNamed B.named
  have hlocks := B.notSynchronized
  have hK := hE.1
  have hNN := hE.2.1
  have hinX4 : ∀ w ∈ wsX40, w ∈ wsX4_add := fun w h => List.mem_cons_of_mem _ (List.mem_append_right _ h)
  subst hsz
  have hD := hD0.self (sz := s.heap.size)
  generalize hAe : va_A [(h0, .inr (4, [.ref a0, .int (nI L.length), .int (nI k), .int (nI lt)])), (a0, .inl (E.2 1, 120, .inl (nA M)))] s.heap.size = A at hD ⊢
  have hA : ∀ q : Nat, s.heap.size ≤ q → A q := fun q h => by rw [← hAe]; exact Or.inr h
  have hS : va_S A s.heap s.heap [] := va_S.rf
  have hl := lv_entry ([.ref h0, .int tv]) (n := 2) (Nat.le_of_ble_eq_true rfl)
  rw [lg_entry_eq]
  generalize (lg_sl ([.ref h0, .int tv]) ++ List.replicate (2 - (lg_sl ([.ref h0, .int tv])).length) Slot.unset).toArray = ls at hl ⊢
  have hl : lv_has ls 2 [(0, .ref h0), (1, .int tv)] := hl
  refine lv_iload_n hx hb dX4_add_0 rfl (lv_at hl 1 rfl) ?_
  refine lv_iconst (v := 0) hx hb dX4_add_1 (by decide) ?_
  refine lv_ldc (v := 1000000) hx hb hown (hts (.constant RX4 15 (1000000)) (by decide +kernel)) dX4_add_2 ?_
  refine rSNi hE ⟨hx, hb, hml, hown, hts⟩ (c_X8_within l E tv 0 1000000 ) ⟨va_cnB 3 hts gX4_add_X8_within_n16 rfl rfl rfl (hNN (.methodLinkNest RX4 16 yX8_within "WornRings") (by decide +kernel)) (hts (.initialized RX8) (by decide +kernel)) (by decide +kernel) ⟨Nat.le_of_ble_eq_true rfl, Nat.le_of_ble_eq_true rfl⟩, hts (.static yX8_within) (by decide +kernel), trivial⟩ (hP.sub [] rfl) rfl hl.1 rfl (Nat.le_of_ble_eq_true rfl) dX4_add_4 ⟨(Nat.zero_le _), (Nat.zero_le _)⟩ ?_
  refine lv_if_eq (tgt := 25) hx hb dX4_add_7 (by decide) (fun c_7 => ?_) (fun c_7 => ?_)
  · have c_7 := fWi_0 c_7
    refine lv_iconst (v := (-1)) hx hb dX4_add_25 (by decide) ?_
    have hP9 : va_P E.1 vwCl [(h0, .inr (4, [.ref a0, .int (nI L.length), .int (nI k), .int (nI lt)])), (a0, .inl (E.2 1, 120, .inl (nA M)))] s.heap := hP.sub [0, 1] rfl
    have hD9 : va_D A [(h0, .inr (4, [.ref a0, .int (nI L.length), .int (nI k), .int (nI lt)])), (a0, .inl (E.2 1, 120, .inl (nA M)))] := hD.sub [0, 1] (by decide) rfl
    exact W.iret (v := (-1)) hx hb hr (fun t9 ht9 hW9 => ⟨⟨(-1), (), rfl, by first | exact (if_neg (fun h9 => c_7 h9.1)).symm | exact (if_neg (fun h9 => h9.2 ⟨by omega, c_22⟩)).symm, ⟨by rw [ht9]; exact hP9, hD9⟩⟩, hS.F ht9⟩) hS.2.2 dX4_add_26
  · have c_7 := fWi_1 c_7
    refine lv_aload_n hx hb dX4_add_10 rfl (lv_at hl 0 rfl) ?_
    refine va_get (D := E.1) (ci := 4) (v := .int (nI k)) (C := RX4) (T := TX4) (N := 4) hx hb hts hinX4 hown hK hP 0 rfl rfl 2 (by decide) (hts (.fieldLink RX4 20 "WornRings$Marks" "count" "I") (by decide +kernel)) (fun _ h9 => h9) rfl dX4_add_11 ?_
    refine lv_if_le (tgt := 27) hx hb dX4_add_14 (by decide) (fun c_14 => ?_) (fun c_14 => ?_)
    · have c_14 : k ≤ 0 := (nI_leI (a := k) (b := 0) (by omega) (by omega)).mp c_14
      refine lv_aload_n hx hb dX4_add_27 rfl (lv_at hl 0 rfl) ?_
      refine va_get (D := E.1) (ci := 4) (v := .int (nI k)) (C := RX4) (T := TX4) (N := 4) hx hb hts hinX4 hown hK hP 0 rfl rfl 2 (by decide) (hts (.fieldLink RX4 20 "WornRings$Marks" "count" "I") (by decide +kernel)) (fun _ h9 => h9) rfl dX4_add_28 ?_
      refine lv_bipush (v := 60) hx hb dX4_add_31 (by decide) ?_
      refine lv_icmp_lt (tgt := 39) hx hb dX4_add_33 (by decide) (fun c_33 => by exfalso; have c_33 : k < 60 := (nI_ltI (a := k) (b := 60) (by omega) (by omega)).mp c_33; first | exact hno.elim (fun h9 => h9 ⟨c_7, fun h8 => absurd h8.1 (by omega)⟩) (fun h9 => by omega) | exact hno.elim (fun h9 => h9 ⟨c_7, fun h8 => c_22 h8.2⟩) (fun h9 => by omega)) (fun c_33 => ?_)
      have c_33 : ¬ k < 60 := fun h9 => c_33 ((nI_ltI (a := k) (b := 60) (by omega) (by omega)).mpr h9)
      refine lv_bipush (v := (-3)) hx hb dX4_add_36 (by decide) ?_
      have hP9 : va_P E.1 vwCl [(h0, .inr (4, [.ref a0, .int (nI L.length), .int (nI k), .int (nI lt)])), (a0, .inl (E.2 1, 120, .inl (nA M)))] s.heap := hP.sub [0, 1] rfl
      have hD9 : va_D A [(h0, .inr (4, [.ref a0, .int (nI L.length), .int (nI k), .int (nI lt)])), (a0, .inl (E.2 1, 120, .inl (nA M)))] := hD.sub [0, 1] (by decide) rfl
      exact W.iret (v := (-3)) hx hb hr (fun t9 ht9 hW9 => ⟨⟨(-3), (), rfl, by first | exact (if_pos ⟨c_7, fun h8 => absurd h8.1 (by omega)⟩).symm | exact (if_pos ⟨c_7, fun h8 => c_22 h8.2⟩).symm, ⟨by rw [ht9]; exact hP9, hD9⟩⟩, hS.F ht9⟩) hS.2.2 dX4_add_38
    · have c_14 : ¬ k ≤ 0 := fun h9 => c_14 ((nI_leI (a := k) (b := 0) (by omega) (by omega)).mpr h9)
      refine lv_iload_n hx hb dX4_add_17 rfl (lv_at hl 1 rfl) ?_
      refine lv_aload_n hx hb dX4_add_18 rfl (lv_at hl 0 rfl) ?_
      refine va_get (D := E.1) (ci := 4) (v := .int (nI lt)) (C := RX4) (T := TX4) (N := 4) hx hb hts hinX4 hown hK hP 0 rfl rfl 3 (by decide) (hts (.fieldLink RX4 24 "WornRings$Marks" "last" "I") (by decide +kernel)) (fun _ h9 => h9) rfl dX4_add_19 ?_
      refine lv_icmp_gt (tgt := 27) hx hb dX4_add_22 (by decide) (fun c_22 => ?_) (fun c_22 => ?_)
      · have c_22 := Int32.not_le.mpr c_22
        refine lv_aload_n hx hb dX4_add_27 rfl (lv_at hl 0 rfl) ?_
        refine va_get (D := E.1) (ci := 4) (v := .int (nI k)) (C := RX4) (T := TX4) (N := 4) hx hb hts hinX4 hown hK hP 0 rfl rfl 2 (by decide) (hts (.fieldLink RX4 20 "WornRings$Marks" "count" "I") (by decide +kernel)) (fun _ h9 => h9) rfl dX4_add_28 ?_
        refine lv_bipush (v := 60) hx hb dX4_add_31 (by decide) ?_
        refine lv_icmp_lt (tgt := 39) hx hb dX4_add_33 (by decide) (fun c_33 => by exfalso; have c_33 : k < 60 := (nI_ltI (a := k) (b := 60) (by omega) (by omega)).mp c_33; first | exact hno.elim (fun h9 => h9 ⟨c_7, fun h8 => absurd h8.1 (by omega)⟩) (fun h9 => by omega) | exact hno.elim (fun h9 => h9 ⟨c_7, fun h8 => c_22 h8.2⟩) (fun h9 => by omega)) (fun c_33 => ?_)
        have c_33 : ¬ k < 60 := fun h9 => c_33 ((nI_ltI (a := k) (b := 60) (by omega) (by omega)).mpr h9)
        refine lv_bipush (v := (-3)) hx hb dX4_add_36 (by decide) ?_
        have hP9 : va_P E.1 vwCl [(h0, .inr (4, [.ref a0, .int (nI L.length), .int (nI k), .int (nI lt)])), (a0, .inl (E.2 1, 120, .inl (nA M)))] s.heap := hP.sub [0, 1] rfl
        have hD9 : va_D A [(h0, .inr (4, [.ref a0, .int (nI L.length), .int (nI k), .int (nI lt)])), (a0, .inl (E.2 1, 120, .inl (nA M)))] := hD.sub [0, 1] (by decide) rfl
        exact W.iret (v := (-3)) hx hb hr (fun t9 ht9 hW9 => ⟨⟨(-3), (), rfl, by first | exact (if_pos ⟨c_7, fun h8 => absurd h8.1 (by omega)⟩).symm | exact (if_pos ⟨c_7, fun h8 => c_22 h8.2⟩).symm, ⟨by rw [ht9]; exact hP9, hD9⟩⟩, hS.F ht9⟩) hS.2.2 dX4_add_38
      · have c_22 := Int32.not_lt.mp c_22
        refine lv_iconst (v := (-1)) hx hb dX4_add_25 (by decide) ?_
        have hP9 : va_P E.1 vwCl [(h0, .inr (4, [.ref a0, .int (nI L.length), .int (nI k), .int (nI lt)])), (a0, .inl (E.2 1, 120, .inl (nA M)))] s.heap := hP.sub [0, 1] rfl
        have hD9 : va_D A [(h0, .inr (4, [.ref a0, .int (nI L.length), .int (nI k), .int (nI lt)])), (a0, .inl (E.2 1, 120, .inl (nA M)))] := hD.sub [0, 1] (by decide) rfl
        exact W.iret (v := (-1)) hx hb hr (fun t9 ht9 hW9 => ⟨⟨(-1), (), rfl, by first | exact (if_neg (fun h9 => c_7 h9.1)).symm | exact (if_neg (fun h9 => h9.2 ⟨by omega, c_22⟩)).symm, ⟨by rw [ht9]; exact hP9, hD9⟩⟩, hS.F ht9⟩) hS.2.2 dX4_add_26
set_option maxHeartbeats 1000000 in
set_option maxRecDepth 100000 in
theorem c_X4_add_yes (l : Launch) (E : EnvT) (sz : Nat) (h0 : Nat) (a0 : Nat) (L : List Nat) (k : Nat) (lt : Nat) (M : Nat → Nat) (x : Nat) (hR : RLs M L) (hL : L.length ≤ 120) (hic : ∀ j, j + 1 < L.length → M j < M (j + 1)) (hbd : ∀ j, j < L.length → M j ≤ 1000000) (hlt : lt ≤ 1000000) (hk : k ≤ 60) (hla : 2 ≤ L.length → L.length < 120 → 0 < k ∧ M (L.length - 1) = lt) (hx1 : x ≤ 1000000) (hx2 : 0 < k → lt < x) (hk6 : k < 60) : Met l yX4_add wsX4_add ({ frames := 2, cells := 0, slots := 0, locals := 47 }) (va_Pc [.ref h0, .int (nI x)] (PW E [(h0, .inr (4, [.ref a0, .int (nI L.length), .int (nI k), .int (nI lt)])), (a0, .inl (E.2 1, 120, .inl (nA M)))] sz)) (va_Qi (fun (r : Int32) (uu : (Nat → Nat)) => r = nI (k + 1) ∧ (RLs uu (adL L x))) (fun (uu : (Nat → Nat)) t => BW E (va_A [(h0, .inr (4, [.ref a0, .int (nI L.length), .int (nI k), .int (nI lt)])), (a0, .inl (E.2 1, 120, .inl (nA M)))] sz) [(h0, .inr (4, [.ref a0, .int (nI (adL L x).length), .int (nI (k + 1)), .int (nI x)])), (a0, .inl (E.2 1, 120, .inl (nA uu)))] t) (va_A [(h0, .inr (4, [.ref a0, .int (nI L.length), .int (nI k), .int (nI lt)])), (a0, .inl (E.2 1, 120, .inl (nA M)))] sz)) 0 0 (va_A [(h0, .inr (4, [.ref a0, .int (nI L.length), .int (nI k), .int (nI lt)])), (a0, .inl (E.2 1, 120, .inl (nA M)))] sz) := by
  refine Met.ofW (cc := cX4_add) (maxL := 2) (ret := (some .int)) (by decide +kernel) rfl ?_
  intro p e s m args below meth c s₁ B hml hv
  obtain ⟨rfl, hsz, hP, hE, hD0⟩ := hv
  have hx := B.exec
  have hb := B.bytes
  have hr := B.returns
  have hts := atoms_spec (ws := wsX4_add) B.pre
  have hown : s.vm.findClass RX4 = some m.cls := findClass_of_methodNamed B.named
  have hlocks := B.notSynchronized
  have hK := hE.1
  have hNN := hE.2.1
  have hinX4 : ∀ w ∈ wsX40, w ∈ wsX4_add := fun w h => List.mem_cons_of_mem _ (List.mem_append_right _ h)
  subst hsz
  have hD := hD0.self (sz := s.heap.size)
  generalize hAe : va_A [(h0, .inr (4, [.ref a0, .int (nI L.length), .int (nI k), .int (nI lt)])), (a0, .inl (E.2 1, 120, .inl (nA M)))] s.heap.size = A at hD ⊢
  have hA : ∀ q : Nat, s.heap.size ≤ q → A q := fun q h => by rw [← hAe]; exact Or.inr h
  have hS : va_S A s.heap s.heap [] := va_S.rf
  have hl := lv_entry ([.ref h0, .int (nI x)]) (n := 2) (Nat.le_of_ble_eq_true rfl)
  rw [lg_entry_eq]
  generalize (lg_sl ([.ref h0, .int (nI x)]) ++ List.replicate (2 - (lg_sl ([.ref h0, .int (nI x)])).length) Slot.unset).toArray = ls at hl ⊢
  have hl : lv_has ls 2 [(0, .ref h0), (1, .int (nI x))] := hl
  refine lv_iload_n hx hb dX4_add_0 rfl (lv_at hl 1 rfl) ?_
  refine lv_iconst (v := 0) hx hb dX4_add_1 (by decide) ?_
  refine lv_ldc (v := 1000000) hx hb hown (hts (.constant RX4 15 (1000000)) (by decide +kernel)) dX4_add_2 ?_
  refine rSNi hE ⟨hx, hb, hml, hown, hts⟩ (c_X8_within l E (nI x) 0 1000000 ) ⟨va_cnB 3 hts gX4_add_X8_within_n16 rfl rfl rfl (hNN (.methodLinkNest RX4 16 yX8_within "WornRings") (by decide +kernel)) (hts (.initialized RX8) (by decide +kernel)) (by decide +kernel) ⟨Nat.le_of_ble_eq_true rfl, Nat.le_of_ble_eq_true rfl⟩, hts (.static yX8_within) (by decide +kernel), trivial⟩ (hP.sub [] rfl) rfl hl.1 rfl (Nat.le_of_ble_eq_true rfl) dX4_add_4 ⟨(Nat.zero_le _), (Nat.zero_le _)⟩ ?_
  refine lv_if_eq (tgt := 25) hx hb dX4_add_7 (by decide) (fun c_7 => by exfalso; have c_7 := fWi_0 c_7; exact c_7 ⟨nI_pos' (by omega), nI_le (b := 1000000) (by omega) (by omega)⟩) (fun c_7 => ?_)
  have c_7 := fWi_1 c_7
  refine lv_aload_n hx hb dX4_add_10 rfl (lv_at hl 0 rfl) ?_
  refine va_get (D := E.1) (ci := 4) (v := .int (nI k)) (C := RX4) (T := TX4) (N := 4) hx hb hts hinX4 hown hK hP 0 rfl rfl 2 (by decide) (hts (.fieldLink RX4 20 "WornRings$Marks" "count" "I") (by decide +kernel)) (fun _ h9 => h9) rfl dX4_add_11 ?_
  refine lv_if_le (tgt := 27) hx hb dX4_add_14 (by decide) (fun c_14 => ?_) (fun c_14 => ?_)
  · have c_14 : k ≤ 0 := (nI_leI (a := k) (b := 0) (by omega) (by omega)).mp c_14
    refine lv_aload_n hx hb dX4_add_27 rfl (lv_at hl 0 rfl) ?_
    refine va_get (D := E.1) (ci := 4) (v := .int (nI k)) (C := RX4) (T := TX4) (N := 4) hx hb hts hinX4 hown hK hP 0 rfl rfl 2 (by decide) (hts (.fieldLink RX4 20 "WornRings$Marks" "count" "I") (by decide +kernel)) (fun _ h9 => h9) rfl dX4_add_28 ?_
    refine lv_bipush (v := 60) hx hb dX4_add_31 (by decide) ?_
    refine lv_icmp_lt (tgt := 39) hx hb dX4_add_33 (by decide) (fun c_33 => ?_) (fun c_33 => by exfalso; have c_33 : ¬ k < 60 := fun h9 => c_33 ((nI_ltI (a := k) (b := 60) (by omega) (by omega)).mpr h9); omega)
    have c_33 : k < 60 := (nI_ltI (a := k) (b := 60) (by omega) (by omega)).mp c_33
    refine lv_aload_n hx hb dX4_add_39 rfl (lv_at hl 0 rfl) ?_
    refine lv_iload_n hx hb dX4_add_40 rfl (lv_at hl 1 rfl) ?_
    refine wVv (wr := []) hE ⟨hx, hb, hml, hown, hts⟩ (c_X4_mendUpTo l E s.heap.size h0 a0 L (nI k) (nI lt) M x (hR) (hL) (hic) (hbd) (hx1) (fun h8 h9 => by have h7 := hla h8 h9; omega)) (cwV 1 hts gX4_add_X4_mendUpTo rfl rfl rfl (by decide +kernel) ⟨Nat.le_of_ble_eq_true rfl, Nat.le_of_ble_eq_true rfl⟩) hP hD hS hA [0, 1] [] rfl rfl (by decide) (by decide) (by decide) 0 4 rfl rfl rfl hl.1 rfl (Nat.le_of_ble_eq_true rfl) dX4_add_41 ⟨(Nat.zero_le _), (Nat.zero_le _)⟩ (fun u H locs hw hP hD hS => ?_)
    obtain ⟨M2_41, rfl⟩ : ∃ z, z = u := ⟨_, rfl⟩
    have hP : va_P E.1 vwCl [(h0, .inr (4, [.ref a0, .int (nI (mdL L x).length), .int (nI k), .int (nI lt)])), (a0, .inl (E.2 1, 120, .inl (nA M2_41)))] H := hP
    have hD : va_D A [(h0, .inr (4, [.ref a0, .int (nI (mdL L x).length), .int (nI k), .int (nI lt)])), (a0, .inl (E.2 1, 120, .inl (nA M2_41)))] := hD
    have hm_41 := hw
    refine lv_aload_n hx hb dX4_add_44 rfl (lv_at hl 0 rfl) ?_
    refine lv_iload_n hx hb dX4_add_45 rfl (lv_at hl 1 rfl) ?_
    refine wVv (wr := []) hE ⟨hx, hb, hml, hown, hts⟩ (c_X4_keep l E H.size h0 a0 (mdL L x) (nI k) (nI lt) M2_41 x (hm_41) (mdL_len _ _ hL)) (cwV 1 hts gX4_add_X4_keep rfl rfl rfl (by decide +kernel) ⟨Nat.le_of_ble_eq_true rfl, Nat.le_of_ble_eq_true rfl⟩) hP hD hS hA [0, 1] [] rfl rfl (by decide) (by decide) (by decide) 0 4 rfl rfl rfl hl.1 rfl (Nat.le_of_ble_eq_true rfl) dX4_add_46 ⟨(Nat.zero_le _), (Nat.zero_le _)⟩ (fun u H locs hw hP hD hS => ?_)
    obtain ⟨M2_46, rfl⟩ : ∃ z, z = u := ⟨_, rfl⟩
    have hP : va_P E.1 vwCl [(h0, .inr (4, [.ref a0, .int (nI (kpL (mdL L x) x).length), .int (nI k), .int (nI lt)])), (a0, .inl (E.2 1, 120, .inl (nA M2_46)))] H := hP
    have hD : va_D A [(h0, .inr (4, [.ref a0, .int (nI (kpL (mdL L x) x).length), .int (nI k), .int (nI lt)])), (a0, .inl (E.2 1, 120, .inl (nA M2_46)))] := hD
    have hm_46 := hw
    refine lv_aload_n hx hb dX4_add_49 rfl (lv_at hl 0 rfl) ?_
    refine lv_iload_n hx hb dX4_add_50 rfl (lv_at hl 1 rfl) ?_
    refine va_put (D := E.1) (ci := 4) (v := .int (nI x)) (ty := .int) (C := RX4) (T := TX4) (N := 4) hx hb hts hinX4 tyX4 tyX4_ok nmX4 hown hK hP hD hS 0 rfl rfl 3 (by decide) (hts (.fieldLink RX4 24 "WornRings$Marks" "last" "I") (by decide +kernel)) (fun _ h9 => h9) rfl (by decide +kernel) (rfl) (rfl) (Nat.le_of_ble_eq_true rfl) dX4_add_51 (fun H locs hP hD hS => ?_)
    have hP : va_P E.1 vwCl [(h0, .inr (4, [.ref a0, .int (nI (kpL (mdL L x) x).length), .int (nI k), .int (nI x)])), (a0, .inl (E.2 1, 120, .inl (nA M2_46)))] H := hP
    have hD : va_D A [(h0, .inr (4, [.ref a0, .int (nI (kpL (mdL L x) x).length), .int (nI k), .int (nI x)])), (a0, .inl (E.2 1, 120, .inl (nA M2_46)))] := hD
    refine lv_aload_n hx hb dX4_add_54 rfl (lv_at hl 0 rfl) ?_
    refine lv_dup hx hb dX4_add_55 rfl ?_
    refine va_get (D := E.1) (ci := 4) (v := .int (nI k)) (C := RX4) (T := TX4) (N := 4) hx hb hts hinX4 hown hK hP 0 rfl rfl 2 (by decide) (hts (.fieldLink RX4 20 "WornRings$Marks" "count" "I") (by decide +kernel)) (fun _ h9 => h9) rfl dX4_add_56 ?_
    refine lv_iconst (v := 1) hx hb dX4_add_59 (by decide) ?_
    refine lv_iadd hx hb dX4_add_60 ?_
    rw [show ((nI k) + (1 : Int32) : Int32) = nI (k + 1) from nI_add k 1]
    refine va_put (D := E.1) (ci := 4) (v := .int (nI (k + 1))) (ty := .int) (C := RX4) (T := TX4) (N := 4) hx hb hts hinX4 tyX4 tyX4_ok nmX4 hown hK hP hD hS 0 rfl rfl 2 (by decide) (hts (.fieldLink RX4 20 "WornRings$Marks" "count" "I") (by decide +kernel)) (fun _ h9 => h9) rfl (by decide +kernel) (rfl) (rfl) (Nat.le_of_ble_eq_true rfl) dX4_add_61 (fun H locs hP hD hS => ?_)
    have hP : va_P E.1 vwCl [(h0, .inr (4, [.ref a0, .int (nI (kpL (mdL L x) x).length), .int (nI (k + 1)), .int (nI x)])), (a0, .inl (E.2 1, 120, .inl (nA M2_46)))] H := hP
    have hD : va_D A [(h0, .inr (4, [.ref a0, .int (nI (kpL (mdL L x) x).length), .int (nI (k + 1)), .int (nI x)])), (a0, .inl (E.2 1, 120, .inl (nA M2_46)))] := hD
    refine lv_aload_n hx hb dX4_add_64 rfl (lv_at hl 0 rfl) ?_
    refine va_get (D := E.1) (ci := 4) (v := .int (nI (k + 1))) (C := RX4) (T := TX4) (N := 4) hx hb hts hinX4 hown hK hP 0 rfl rfl 2 (by decide) (hts (.fieldLink RX4 20 "WornRings$Marks" "count" "I") (by decide +kernel)) (fun _ h9 => h9) rfl dX4_add_65 ?_
    have e9 : ([(h0, .inr (4, [.ref a0, .int (nI (adL L x).length), .int (nI (k + 1)), .int (nI x)])), (a0, .inl (E.2 1, 120, .inl (nA M2_46)))] : va_W) = [(h0, .inr (4, [.ref a0, .int (nI (kpL (mdL L x) x).length), .int (nI (k + 1)), .int (nI x)])), (a0, .inl (E.2 1, 120, .inl (nA M2_46)))] := by rfl
    have hP9 : va_P E.1 vwCl [(h0, .inr (4, [.ref a0, .int (nI (adL L x).length), .int (nI (k + 1)), .int (nI x)])), (a0, .inl (E.2 1, 120, .inl (nA M2_46)))] H := by rw [e9]; exact hP.sub [0, 1] rfl
    have hD9 : va_D A [(h0, .inr (4, [.ref a0, .int (nI (adL L x).length), .int (nI (k + 1)), .int (nI x)])), (a0, .inl (E.2 1, 120, .inl (nA M2_46)))] := by rw [e9]; exact hD.sub [0, 1] (by decide) rfl
    exact W.iret (v := nI (k + 1)) hx hb hr (fun t9 ht9 hW9 => ⟨⟨nI (k + 1), (M2_46), rfl, ⟨rfl, hm_46⟩, ⟨by rw [ht9]; exact hP9, hD9⟩⟩, hS.F ht9⟩) hS.2.2 dX4_add_68
  · have c_14 : ¬ k ≤ 0 := fun h9 => c_14 ((nI_leI (a := k) (b := 0) (by omega) (by omega)).mpr h9)
    refine lv_iload_n hx hb dX4_add_17 rfl (lv_at hl 1 rfl) ?_
    refine lv_aload_n hx hb dX4_add_18 rfl (lv_at hl 0 rfl) ?_
    refine va_get (D := E.1) (ci := 4) (v := .int (nI lt)) (C := RX4) (T := TX4) (N := 4) hx hb hts hinX4 hown hK hP 0 rfl rfl 3 (by decide) (hts (.fieldLink RX4 24 "WornRings$Marks" "last" "I") (by decide +kernel)) (fun _ h9 => h9) rfl dX4_add_19 ?_
    refine lv_icmp_gt (tgt := 27) hx hb dX4_add_22 (by decide) (fun c_22 => ?_) (fun c_22 => by exfalso; have c_22 : ¬ lt < x := fun h9 => c_22 ((nI_ltI (a := lt) (b := x) (by omega) (by omega)).mpr h9); omega)
    have c_22 : lt < x := (nI_ltI (a := lt) (b := x) (by omega) (by omega)).mp c_22
    refine lv_aload_n hx hb dX4_add_27 rfl (lv_at hl 0 rfl) ?_
    refine va_get (D := E.1) (ci := 4) (v := .int (nI k)) (C := RX4) (T := TX4) (N := 4) hx hb hts hinX4 hown hK hP 0 rfl rfl 2 (by decide) (hts (.fieldLink RX4 20 "WornRings$Marks" "count" "I") (by decide +kernel)) (fun _ h9 => h9) rfl dX4_add_28 ?_
    refine lv_bipush (v := 60) hx hb dX4_add_31 (by decide) ?_
    refine lv_icmp_lt (tgt := 39) hx hb dX4_add_33 (by decide) (fun c_33 => ?_) (fun c_33 => by exfalso; have c_33 : ¬ k < 60 := fun h9 => c_33 ((nI_ltI (a := k) (b := 60) (by omega) (by omega)).mpr h9); omega)
    have c_33 : k < 60 := (nI_ltI (a := k) (b := 60) (by omega) (by omega)).mp c_33
    refine lv_aload_n hx hb dX4_add_39 rfl (lv_at hl 0 rfl) ?_
    refine lv_iload_n hx hb dX4_add_40 rfl (lv_at hl 1 rfl) ?_
    refine wVv (wr := []) hE ⟨hx, hb, hml, hown, hts⟩ (c_X4_mendUpTo l E s.heap.size h0 a0 L (nI k) (nI lt) M x (hR) (hL) (hic) (hbd) (hx1) (fun h8 h9 => by have h7 := hla h8 h9; omega)) (cwV 1 hts gX4_add_X4_mendUpTo rfl rfl rfl (by decide +kernel) ⟨Nat.le_of_ble_eq_true rfl, Nat.le_of_ble_eq_true rfl⟩) hP hD hS hA [0, 1] [] rfl rfl (by decide) (by decide) (by decide) 0 4 rfl rfl rfl hl.1 rfl (Nat.le_of_ble_eq_true rfl) dX4_add_41 ⟨(Nat.zero_le _), (Nat.zero_le _)⟩ (fun u H locs hw hP hD hS => ?_)
    obtain ⟨M2_41, rfl⟩ : ∃ z, z = u := ⟨_, rfl⟩
    have hP : va_P E.1 vwCl [(h0, .inr (4, [.ref a0, .int (nI (mdL L x).length), .int (nI k), .int (nI lt)])), (a0, .inl (E.2 1, 120, .inl (nA M2_41)))] H := hP
    have hD : va_D A [(h0, .inr (4, [.ref a0, .int (nI (mdL L x).length), .int (nI k), .int (nI lt)])), (a0, .inl (E.2 1, 120, .inl (nA M2_41)))] := hD
    have hm_41 := hw
    refine lv_aload_n hx hb dX4_add_44 rfl (lv_at hl 0 rfl) ?_
    refine lv_iload_n hx hb dX4_add_45 rfl (lv_at hl 1 rfl) ?_
    refine wVv (wr := []) hE ⟨hx, hb, hml, hown, hts⟩ (c_X4_keep l E H.size h0 a0 (mdL L x) (nI k) (nI lt) M2_41 x (hm_41) (mdL_len _ _ hL)) (cwV 1 hts gX4_add_X4_keep rfl rfl rfl (by decide +kernel) ⟨Nat.le_of_ble_eq_true rfl, Nat.le_of_ble_eq_true rfl⟩) hP hD hS hA [0, 1] [] rfl rfl (by decide) (by decide) (by decide) 0 4 rfl rfl rfl hl.1 rfl (Nat.le_of_ble_eq_true rfl) dX4_add_46 ⟨(Nat.zero_le _), (Nat.zero_le _)⟩ (fun u H locs hw hP hD hS => ?_)
    obtain ⟨M2_46, rfl⟩ : ∃ z, z = u := ⟨_, rfl⟩
    have hP : va_P E.1 vwCl [(h0, .inr (4, [.ref a0, .int (nI (kpL (mdL L x) x).length), .int (nI k), .int (nI lt)])), (a0, .inl (E.2 1, 120, .inl (nA M2_46)))] H := hP
    have hD : va_D A [(h0, .inr (4, [.ref a0, .int (nI (kpL (mdL L x) x).length), .int (nI k), .int (nI lt)])), (a0, .inl (E.2 1, 120, .inl (nA M2_46)))] := hD
    have hm_46 := hw
    refine lv_aload_n hx hb dX4_add_49 rfl (lv_at hl 0 rfl) ?_
    refine lv_iload_n hx hb dX4_add_50 rfl (lv_at hl 1 rfl) ?_
    refine va_put (D := E.1) (ci := 4) (v := .int (nI x)) (ty := .int) (C := RX4) (T := TX4) (N := 4) hx hb hts hinX4 tyX4 tyX4_ok nmX4 hown hK hP hD hS 0 rfl rfl 3 (by decide) (hts (.fieldLink RX4 24 "WornRings$Marks" "last" "I") (by decide +kernel)) (fun _ h9 => h9) rfl (by decide +kernel) (rfl) (rfl) (Nat.le_of_ble_eq_true rfl) dX4_add_51 (fun H locs hP hD hS => ?_)
    have hP : va_P E.1 vwCl [(h0, .inr (4, [.ref a0, .int (nI (kpL (mdL L x) x).length), .int (nI k), .int (nI x)])), (a0, .inl (E.2 1, 120, .inl (nA M2_46)))] H := hP
    have hD : va_D A [(h0, .inr (4, [.ref a0, .int (nI (kpL (mdL L x) x).length), .int (nI k), .int (nI x)])), (a0, .inl (E.2 1, 120, .inl (nA M2_46)))] := hD
    refine lv_aload_n hx hb dX4_add_54 rfl (lv_at hl 0 rfl) ?_
    refine lv_dup hx hb dX4_add_55 rfl ?_
    refine va_get (D := E.1) (ci := 4) (v := .int (nI k)) (C := RX4) (T := TX4) (N := 4) hx hb hts hinX4 hown hK hP 0 rfl rfl 2 (by decide) (hts (.fieldLink RX4 20 "WornRings$Marks" "count" "I") (by decide +kernel)) (fun _ h9 => h9) rfl dX4_add_56 ?_
    refine lv_iconst (v := 1) hx hb dX4_add_59 (by decide) ?_
    refine lv_iadd hx hb dX4_add_60 ?_
    rw [show ((nI k) + (1 : Int32) : Int32) = nI (k + 1) from nI_add k 1]
    refine va_put (D := E.1) (ci := 4) (v := .int (nI (k + 1))) (ty := .int) (C := RX4) (T := TX4) (N := 4) hx hb hts hinX4 tyX4 tyX4_ok nmX4 hown hK hP hD hS 0 rfl rfl 2 (by decide) (hts (.fieldLink RX4 20 "WornRings$Marks" "count" "I") (by decide +kernel)) (fun _ h9 => h9) rfl (by decide +kernel) (rfl) (rfl) (Nat.le_of_ble_eq_true rfl) dX4_add_61 (fun H locs hP hD hS => ?_)
    have hP : va_P E.1 vwCl [(h0, .inr (4, [.ref a0, .int (nI (kpL (mdL L x) x).length), .int (nI (k + 1)), .int (nI x)])), (a0, .inl (E.2 1, 120, .inl (nA M2_46)))] H := hP
    have hD : va_D A [(h0, .inr (4, [.ref a0, .int (nI (kpL (mdL L x) x).length), .int (nI (k + 1)), .int (nI x)])), (a0, .inl (E.2 1, 120, .inl (nA M2_46)))] := hD
    refine lv_aload_n hx hb dX4_add_64 rfl (lv_at hl 0 rfl) ?_
    refine va_get (D := E.1) (ci := 4) (v := .int (nI (k + 1))) (C := RX4) (T := TX4) (N := 4) hx hb hts hinX4 hown hK hP 0 rfl rfl 2 (by decide) (hts (.fieldLink RX4 20 "WornRings$Marks" "count" "I") (by decide +kernel)) (fun _ h9 => h9) rfl dX4_add_65 ?_
    have e9 : ([(h0, .inr (4, [.ref a0, .int (nI (adL L x).length), .int (nI (k + 1)), .int (nI x)])), (a0, .inl (E.2 1, 120, .inl (nA M2_46)))] : va_W) = [(h0, .inr (4, [.ref a0, .int (nI (kpL (mdL L x) x).length), .int (nI (k + 1)), .int (nI x)])), (a0, .inl (E.2 1, 120, .inl (nA M2_46)))] := by rfl
    have hP9 : va_P E.1 vwCl [(h0, .inr (4, [.ref a0, .int (nI (adL L x).length), .int (nI (k + 1)), .int (nI x)])), (a0, .inl (E.2 1, 120, .inl (nA M2_46)))] H := by rw [e9]; exact hP.sub [0, 1] rfl
    have hD9 : va_D A [(h0, .inr (4, [.ref a0, .int (nI (adL L x).length), .int (nI (k + 1)), .int (nI x)])), (a0, .inl (E.2 1, 120, .inl (nA M2_46)))] := by rw [e9]; exact hD.sub [0, 1] (by decide) rfl
    exact W.iret (v := nI (k + 1)) hx hb hr (fun t9 ht9 hW9 => ⟨⟨nI (k + 1), (M2_46), rfl, ⟨rfl, hm_46⟩, ⟨by rw [ht9]; exact hP9, hD9⟩⟩, hS.F ht9⟩) hS.2.2 dX4_add_68
